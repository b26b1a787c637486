set_option maxHeartbeats 4000000 in
set_option maxRecDepth 100000 in
/-- put(b) -/
theorem c_P_put (l : Launch) (dC : Nat → ClassId) (dI : Nat → Nat → Nat) (aP aR aX aO ts os uw : Nat) (fr to : Int32) (pw co dr de : Nat) (cX : ClassId) (Xf : Nat → Int32) (b : Int32) (hts5 : ts ≤ 512) (hz : Nat) : Met l yX1_put wsX1_put ({ frames := 0, cells := 0, slots := 0, locals := 0 }) (va_Pc [.ref aP, .int b] (fun U => U.heap.size = hz ∧ va_P (dC, dI) vwCl [(aP, .inr (1, [.ref aR, .ref aX, .int (nI ts), .ref aO, .int (nI os), .int (nI uw), .int fr, .int to, .int (nI pw), .int (nI co), .int (nI dr), .int (nI de)])), (aX, .inl (cX, 512, .inl Xf))] U.heap ∧ va_K (dC, dI) vwCl [(cX, .byte)] U ∧ va_D (fun _ => True) [(aP, .inr (1, [.ref aR, .ref aX, .int (nI ts), .ref aO, .int (nI os), .int (nI uw), .int fr, .int to, .int (nI pw), .int (nI co), .int (nI dr), .int (nI de)])), (aX, .inl (cX, 512, .inl Xf))])) (va_Qi (fun (r : Int32) (u : Nat × (Nat → Int32)) => (512 ≤ ts ∧ r = (-1) ∧ u.1 = ts ∧ u.2 = Xf) ∨ (ts < 512 ∧ r = nI (ts + 1) ∧ u.1 = ts + 1 ∧ u.2 = upd Xf ts (b.toInt8.toInt32))) (fun u t => va_P (dC, dI) vwCl [(aP, .inr (1, [.ref aR, .ref aX, .int (nI u.1), .ref aO, .int (nI os), .int (nI uw), .int fr, .int to, .int (nI pw), .int (nI co), .int (nI dr), .int (nI de)])), (aX, .inl (cX, 512, .inl u.2))] t.heap ∧ va_K (dC, dI) vwCl [(cX, .byte)] t ∧ va_D (va_A [(aP, .inr (1, [.ref aR, .ref aX, .int (nI ts), .ref aO, .int (nI os), .int (nI uw), .int fr, .int to, .int (nI pw), .int (nI co), .int (nI dr), .int (nI de)])), (aX, .inl (cX, 512, .inl Xf))] hz) [(aP, .inr (1, [.ref aR, .ref aX, .int (nI u.1), .ref aO, .int (nI os), .int (nI uw), .int fr, .int to, .int (nI pw), .int (nI co), .int (nI dr), .int (nI de)])), (aX, .inl (cX, 512, .inl u.2))]) (va_A [(aP, .inr (1, [.ref aR, .ref aX, .int (nI ts), .ref aO, .int (nI os), .int (nI uw), .int fr, .int to, .int (nI pw), .int (nI co), .int (nI dr), .int (nI de)])), (aX, .inl (cX, 512, .inl Xf))] hz)) 0 0 (va_A [(aP, .inr (1, [.ref aR, .ref aX, .int (nI ts), .ref aO, .int (nI os), .int (nI uw), .int fr, .int to, .int (nI pw), .int (nI co), .int (nI dr), .int (nI de)])), (aX, .inl (cX, 512, .inl Xf))] hz) := by
  refine Met.ofW (cc := cX1_put) (maxL := 2) (ret := (some .int)) (by decide) rfl ?_
  intro p e s m args below meth c s₁ B hml hv
  obtain ⟨rfl, hsz, hP, hK, hD0⟩ := hv
  have hx := B.exec
  have hb := B.bytes
  have hr := B.returns
  have hts := atoms_spec (ws := wsX1_put) B.pre
  have hown : s.vm.findClass RX1 = some m.cls := findClass_of_methodNamed B.named
  have hlocks := B.notSynchronized
  have hi_P : ∀ w ∈ u_ws RX1 TX1 12, w ∈ wsX1_put := by decide +kernel
  subst hsz
  have hD := hD0.self (sz := s.heap.size)
  generalize hAe : va_A [(aP, .inr (1, [.ref aR, .ref aX, .int (nI ts), .ref aO, .int (nI os), .int (nI uw), .int fr, .int to, .int (nI pw), .int (nI co), .int (nI dr), .int (nI de)])), (aX, .inl (cX, 512, .inl Xf))] s.heap.size = A at hD ⊢
  have hA : ∀ q : Nat, s.heap.size ≤ q → A q := fun q h => by rw [← hAe]; exact Or.inr h
  have hS : va_S A s.heap s.heap [] := va_S.rf
  have hP : va_P (dC, dI) vwCl [(aP, .inr (1, [.ref aR, .ref aX, .int (nI ts), .ref aO, .int (nI os), .int (nI uw), .int fr, .int to, .int (nI pw), .int (nI co), .int (nI dr), .int (nI de)])), (aX, .inl (cX, 512, .inl Xf))] s.heap := hP
  have hl := lv_entry ([.ref aP, .int b]) (n := 2) (Nat.le_of_ble_eq_true rfl)
  rw [lg_entry_eq]
  generalize (lg_sl ([.ref aP, .int b]) ++ List.replicate (2 - (lg_sl ([.ref aP, .int b])).length) Slot.unset).toArray = ls at hl ⊢
  have hl : lv_has ls 2 [(0, .ref aP), (1, .int b)] := hl
  refine lv_aload_n hx hb dX1_put_0 rfl (lv_at hl 0 rfl) ?_
  refine va_get (D := (dC, dI)) (ci := 1) (v := .int (nI ts)) (C := RX1) (T := TX1) (N := 12) hx hb hts hi_P hown hK hP 0 rfl rfl 2 (by decide) (hts (.fieldLink RX1 34 "PacketStore" "textSize" "I") (by decide +kernel)) (fun _ h9 => h9) rfl dX1_put_1 ?_
  refine lv_sipush (v := nI 512) hx hb dX1_put_4 (by decide) ?_
  refine zz_icmp_lt (a := ts) (b := 512) (tgt := 12) hx hb dX1_put_7 (by decide) (by omega) (by omega) (fun c7 => ?_) (fun c7 => ?_)
  · refine lv_aload_n hx hb dX1_put_12 rfl (lv_at hl 0 rfl) ?_
    refine va_get (D := (dC, dI)) (ci := 1) (v := .ref aX) (C := RX1) (T := TX1) (N := 12) hx hb hts hi_P hown hK hP 0 rfl rfl 1 (by decide) (hts (.fieldLink RX1 27 "PacketStore" "text" "[B") (by decide +kernel)) (fun _ h9 => h9) rfl dX1_put_13 ?_
    refine lv_aload_n hx hb dX1_put_16 rfl (lv_at hl 0 rfl) ?_
    refine va_get (D := (dC, dI)) (ci := 1) (v := .int (nI ts)) (C := RX1) (T := TX1) (N := 12) hx hb hts hi_P hown hK hP 0 rfl rfl 2 (by decide) (hts (.fieldLink RX1 34 "PacketStore" "textSize" "I") (by decide +kernel)) (fun _ h9 => h9) rfl dX1_put_17 ?_
    refine lv_iload_n hx hb dX1_put_20 rfl (lv_at hl 1 rfl) ?_
    refine lv_i2b (v := b.toInt8.toInt32) hx hb dX1_put_21 rfl ?_
    refine zz_bast hx hb hK hP hD hS 1 0 rfl rfl (j := ts) (x := ((b.toInt8.toInt32))) (by omega) (by omega) dX1_put_22 (fun H locs hP hD hS => ?_)
    have hP : va_P (dC, dI) vwCl [(aP, .inr (1, [.ref aR, .ref aX, .int (nI ts), .ref aO, .int (nI os), .int (nI uw), .int fr, .int to, .int (nI pw), .int (nI co), .int (nI dr), .int (nI de)])), (aX, .inl (cX, 512, .inl (upd Xf ts (((b.toInt8.toInt32)).toInt8.toInt32))))] H := hP
    have hD : va_D A [(aP, .inr (1, [.ref aR, .ref aX, .int (nI ts), .ref aO, .int (nI os), .int (nI uw), .int fr, .int to, .int (nI pw), .int (nI co), .int (nI dr), .int (nI de)])), (aX, .inl (cX, 512, .inl (upd Xf ts (((b.toInt8.toInt32)).toInt8.toInt32))))] := hD
    rw [zz_i8] at hP hD
    have hP : va_P (dC, dI) vwCl [(aP, .inr (1, [.ref aR, .ref aX, .int (nI ts), .ref aO, .int (nI os), .int (nI uw), .int fr, .int to, .int (nI pw), .int (nI co), .int (nI dr), .int (nI de)])), (aX, .inl (cX, 512, .inl (upd Xf ts (b.toInt8.toInt32))))] H := hP
    have hD : va_D A [(aP, .inr (1, [.ref aR, .ref aX, .int (nI ts), .ref aO, .int (nI os), .int (nI uw), .int fr, .int to, .int (nI pw), .int (nI co), .int (nI dr), .int (nI de)])), (aX, .inl (cX, 512, .inl (upd Xf ts (b.toInt8.toInt32))))] := hD
    refine lv_aload_n hx hb dX1_put_23 rfl (lv_at hl 0 rfl) ?_
    refine lv_dup hx hb dX1_put_24 rfl ?_
    refine va_get (D := (dC, dI)) (ci := 1) (v := .int (nI ts)) (C := RX1) (T := TX1) (N := 12) hx hb hts hi_P hown hK hP 0 rfl rfl 2 (by decide) (hts (.fieldLink RX1 34 "PacketStore" "textSize" "I") (by decide +kernel)) (fun _ h9 => h9) rfl dX1_put_25 ?_
    refine lv_iconst (v := nI 1) hx hb dX1_put_28 (by decide) ?_
    refine lv_iadd hx hb dX1_put_29 ?_
    refine zz_as (nI (ts + 1)) (nI_add _ _) ?_
    refine va_put (D := (dC, dI)) (ci := 1) (v := .int (nI (ts + 1))) (ty := .int) (C := RX1) (T := TX1) (N := 12) hx hb hts hi_P tyX1 tyX1_ok nmX1 hown hK hP hD hS 0 rfl rfl 2 (by decide) (hts (.fieldLink RX1 34 "PacketStore" "textSize" "I") (by decide +kernel)) (fun _ h9 => h9) rfl (by decide +kernel) rfl rfl (Nat.le_of_ble_eq_true rfl) dX1_put_30 (fun H locs hP hD hS => ?_)
    have hP : va_P (dC, dI) vwCl [(aP, .inr (1, [.ref aR, .ref aX, .int (nI (ts + 1)), .ref aO, .int (nI os), .int (nI uw), .int fr, .int to, .int (nI pw), .int (nI co), .int (nI dr), .int (nI de)])), (aX, .inl (cX, 512, .inl (upd Xf ts (b.toInt8.toInt32))))] H := hP
    have hD : va_D A [(aP, .inr (1, [.ref aR, .ref aX, .int (nI (ts + 1)), .ref aO, .int (nI os), .int (nI uw), .int fr, .int to, .int (nI pw), .int (nI co), .int (nI dr), .int (nI de)])), (aX, .inl (cX, 512, .inl (upd Xf ts (b.toInt8.toInt32))))] := hD
    refine lv_aload_n hx hb dX1_put_33 rfl (lv_at hl 0 rfl) ?_
    refine va_get (D := (dC, dI)) (ci := 1) (v := .int (nI (ts + 1))) (C := RX1) (T := TX1) (N := 12) hx hb hts hi_P hown hK hP 0 rfl rfl 2 (by decide) (hts (.fieldLink RX1 34 "PacketStore" "textSize" "I") (by decide +kernel)) (fun _ h9 => h9) rfl dX1_put_34 ?_
    exact W.iret (v := (nI (ts + 1))) hx hb hr (fun t ht hW => ⟨⟨_, (ts + 1, upd Xf ts (b.toInt8.toInt32)), rfl, Or.inr ⟨by omega, rfl, rfl, rfl⟩, by rw [ht]; exact hP, va_K.moved hW.alike hK, hD⟩, hS.F ht⟩) hS.2.2 dX1_put_37
  · refine lv_iconst (v := (-1)) hx hb dX1_put_10 (by decide) ?_
    exact W.iret (v := ((-1))) hx hb hr (fun t ht hW => ⟨⟨_, (ts, Xf), rfl, Or.inl ⟨c7, rfl, rfl, rfl⟩, by rw [ht]; exact hP, va_K.moved hW.alike hK, hD⟩, hS.F ht⟩) hS.2.2 dX1_put_11
set_option maxHeartbeats 4000000 in
set_option maxRecDepth 100000 in
/-- keep(time), the text is empty -/
theorem c_P_keep_none (l : Launch) (dC : Nat → ClassId) (dI : Nat → Nat → Nat) (aP aR aX aO ts os uw : Nat) (fr to : Int32) (pw co dr de : Nat) (tim : Int32) (h0 : ts = 0) (hz : Nat) : Met l yX1_keep wsX1_keep ({ frames := 0, cells := 0, slots := 0, locals := 0 }) (va_Pc [.ref aP, .int tim] (fun U => U.heap.size = hz ∧ va_P (dC, dI) vwCl [(aP, .inr (1, [.ref aR, .ref aX, .int (nI ts), .ref aO, .int (nI os), .int (nI uw), .int fr, .int to, .int (nI pw), .int (nI co), .int (nI dr), .int (nI de)]))] U.heap ∧ va_K (dC, dI) vwCl [] U ∧ va_D (fun _ => True) [(aP, .inr (1, [.ref aR, .ref aX, .int (nI ts), .ref aO, .int (nI os), .int (nI uw), .int fr, .int to, .int (nI pw), .int (nI co), .int (nI dr), .int (nI de)]))])) (va_Qi (fun (r : Int32) (u : Unit) => r = (-1)) (fun u t => va_P (dC, dI) vwCl [(aP, .inr (1, [.ref aR, .ref aX, .int (nI 0), .ref aO, .int (nI os), .int (nI uw), .int fr, .int to, .int (nI pw), .int (nI co), .int (nI dr), .int (nI de)]))] t.heap ∧ va_K (dC, dI) vwCl [] t ∧ va_D (va_A [(aP, .inr (1, [.ref aR, .ref aX, .int (nI ts), .ref aO, .int (nI os), .int (nI uw), .int fr, .int to, .int (nI pw), .int (nI co), .int (nI dr), .int (nI de)]))] hz) [(aP, .inr (1, [.ref aR, .ref aX, .int (nI 0), .ref aO, .int (nI os), .int (nI uw), .int fr, .int to, .int (nI pw), .int (nI co), .int (nI dr), .int (nI de)]))]) (va_A [(aP, .inr (1, [.ref aR, .ref aX, .int (nI ts), .ref aO, .int (nI os), .int (nI uw), .int fr, .int to, .int (nI pw), .int (nI co), .int (nI dr), .int (nI de)]))] hz)) 0 0 (va_A [(aP, .inr (1, [.ref aR, .ref aX, .int (nI ts), .ref aO, .int (nI os), .int (nI uw), .int fr, .int to, .int (nI pw), .int (nI co), .int (nI dr), .int (nI de)]))] hz) := by
  refine Met.ofW (cc := cX1_keep) (maxL := 4) (ret := (some .int)) (by decide) rfl ?_
  intro p e s m args below meth c s₁ B hml hv
  obtain ⟨rfl, hsz, hP, hK, hD0⟩ := hv
  have hx := B.exec
  have hb := B.bytes
  have hr := B.returns
  have hts := atoms_spec (ws := wsX1_keep) B.pre
  have hown : s.vm.findClass RX1 = some m.cls := findClass_of_methodNamed B.named
  have hlocks := B.notSynchronized
  have hi_P : ∀ w ∈ u_ws RX1 TX1 12, w ∈ wsX1_keep := by decide +kernel
  subst hsz
  have hD := hD0.self (sz := s.heap.size)
  generalize hAe : va_A [(aP, .inr (1, [.ref aR, .ref aX, .int (nI ts), .ref aO, .int (nI os), .int (nI uw), .int fr, .int to, .int (nI pw), .int (nI co), .int (nI dr), .int (nI de)]))] s.heap.size = A at hD ⊢
  have hA : ∀ q : Nat, s.heap.size ≤ q → A q := fun q h => by rw [← hAe]; exact Or.inr h
  have hS : va_S A s.heap s.heap [] := va_S.rf
  have hP : va_P (dC, dI) vwCl [(aP, .inr (1, [.ref aR, .ref aX, .int (nI ts), .ref aO, .int (nI os), .int (nI uw), .int fr, .int to, .int (nI pw), .int (nI co), .int (nI dr), .int (nI de)]))] s.heap := hP
  have hl := lv_entry ([.ref aP, .int tim]) (n := 4) (Nat.le_of_ble_eq_true rfl)
  rw [lg_entry_eq]
  generalize (lg_sl ([.ref aP, .int tim]) ++ List.replicate (4 - (lg_sl ([.ref aP, .int tim])).length) Slot.unset).toArray = ls at hl ⊢
  have hl : lv_has ls 4 [(0, .ref aP), (1, .int tim)] := hl
  refine lv_aload_n hx hb dX1_keep_0 rfl (lv_at hl 0 rfl) ?_
  refine va_get (D := (dC, dI)) (ci := 1) (v := .int (nI ts)) (C := RX1) (T := TX1) (N := 12) hx hb hts hi_P hown hK hP 0 rfl rfl 2 (by decide) (hts (.fieldLink RX1 34 "PacketStore" "textSize" "I") (by decide +kernel)) (fun _ h9 => h9) rfl dX1_keep_1 ?_
  refine lv_istore_n (lv' := [(2, .int (nI ts)), (0, .ref aP), (1, .int tim)]) hx hb dX1_keep_4 rfl hl (by decide) rfl (fun ls hl => ?_)
  refine lv_aload_n hx hb dX1_keep_5 rfl (lv_at hl 1 rfl) ?_
  refine lv_iconst (v := nI 0) hx hb dX1_keep_6 (by decide) ?_
  refine va_put (D := (dC, dI)) (ci := 1) (v := .int (nI 0)) (ty := .int) (C := RX1) (T := TX1) (N := 12) hx hb hts hi_P tyX1 tyX1_ok nmX1 hown hK hP hD hS 0 rfl rfl 2 (by decide) (hts (.fieldLink RX1 34 "PacketStore" "textSize" "I") (by decide +kernel)) (fun _ h9 => h9) rfl (by decide +kernel) rfl rfl (Nat.le_of_ble_eq_true rfl) dX1_keep_7 (fun H locs hP hD hS => ?_)
  have hP : va_P (dC, dI) vwCl [(aP, .inr (1, [.ref aR, .ref aX, .int (nI 0), .ref aO, .int (nI os), .int (nI uw), .int fr, .int to, .int (nI pw), .int (nI co), .int (nI dr), .int (nI de)]))] H := hP
  have hD : va_D A [(aP, .inr (1, [.ref aR, .ref aX, .int (nI 0), .ref aO, .int (nI os), .int (nI uw), .int fr, .int to, .int (nI pw), .int (nI co), .int (nI dr), .int (nI de)]))] := hD
  refine lv_iload_n hx hb dX1_keep_10 rfl (lv_at hl 0 rfl) ?_
  refine zz_if_ne (a := ts) (tgt := 16) hx hb dX1_keep_11 (by decide) (by omega) (fun c11 => ?_) (fun c11 => ?_)
  · exact absurd h0 c11
  · refine lv_iconst (v := (-1)) hx hb dX1_keep_14 (by decide) ?_
    exact W.iret (v := ((-1))) hx hb hr (fun t ht hW => ⟨⟨_, (), rfl, rfl, by rw [ht]; exact hP, va_K.moved hW.alike hK, hD⟩, hS.F ht⟩) hS.2.2 dX1_keep_15
set_option maxHeartbeats 4000000 in
set_option maxRecDepth 100000 in
/-- keep(time), the text has more than the room -/
theorem c_P_keep_full (l : Launch) (dC : Nat → ClassId) (dI : Nat → Nat → Nat) (aP aR aX aO ts os uw : Nat) (fr to : Int32) (pw co dr de : Nat) (aB aS aT R o n en us : Nat) (tim : Int32) (h0 : R < ts) (h5 : ts ≤ 512) (hz : Nat) : Met l yX1_keep wsX1_keep ({ frames := 1, cells := 0, slots := 0, locals := 20 }) (va_Pc [.ref aP, .int tim] (fun U => U.heap.size = hz ∧ va_P (dC, dI) vwCl [(aP, .inr (1, [.ref aR, .ref aX, .int (nI ts), .ref aO, .int (nI os), .int (nI uw), .int fr, .int to, .int (nI pw), .int (nI co), .int (nI dr), .int (nI de)])), (aR, .inr (0, [.int (nI R), .ref aB, .ref aS, .ref aT, .int (nI o), .int (nI n), .int (nI en), .int (nI us)]))] U.heap ∧ va_K (dC, dI) vwCl [] U ∧ va_D (fun _ => True) [(aP, .inr (1, [.ref aR, .ref aX, .int (nI ts), .ref aO, .int (nI os), .int (nI uw), .int fr, .int to, .int (nI pw), .int (nI co), .int (nI dr), .int (nI de)])), (aR, .inr (0, [.int (nI R), .ref aB, .ref aS, .ref aT, .int (nI o), .int (nI n), .int (nI en), .int (nI us)]))])) (va_Qi (fun (r : Int32) (u : Unit) => r = (-2)) (fun u t => va_P (dC, dI) vwCl [(aP, .inr (1, [.ref aR, .ref aX, .int (nI 0), .ref aO, .int (nI os), .int (nI uw), .int fr, .int to, .int (nI pw), .int (nI co), .int (nI dr), .int (nI de)])), (aR, .inr (0, [.int (nI R), .ref aB, .ref aS, .ref aT, .int (nI o), .int (nI n), .int (nI en), .int (nI us)]))] t.heap ∧ va_K (dC, dI) vwCl [] t ∧ va_D (va_A [(aP, .inr (1, [.ref aR, .ref aX, .int (nI ts), .ref aO, .int (nI os), .int (nI uw), .int fr, .int to, .int (nI pw), .int (nI co), .int (nI dr), .int (nI de)])), (aR, .inr (0, [.int (nI R), .ref aB, .ref aS, .ref aT, .int (nI o), .int (nI n), .int (nI en), .int (nI us)]))] hz) [(aP, .inr (1, [.ref aR, .ref aX, .int (nI 0), .ref aO, .int (nI os), .int (nI uw), .int fr, .int to, .int (nI pw), .int (nI co), .int (nI dr), .int (nI de)])), (aR, .inr (0, [.int (nI R), .ref aB, .ref aS, .ref aT, .int (nI o), .int (nI n), .int (nI en), .int (nI us)]))]) (va_A [(aP, .inr (1, [.ref aR, .ref aX, .int (nI ts), .ref aO, .int (nI os), .int (nI uw), .int fr, .int to, .int (nI pw), .int (nI co), .int (nI dr), .int (nI de)])), (aR, .inr (0, [.int (nI R), .ref aB, .ref aS, .ref aT, .int (nI o), .int (nI n), .int (nI en), .int (nI us)]))] hz)) 0 0 (va_A [(aP, .inr (1, [.ref aR, .ref aX, .int (nI ts), .ref aO, .int (nI os), .int (nI uw), .int fr, .int to, .int (nI pw), .int (nI co), .int (nI dr), .int (nI de)])), (aR, .inr (0, [.int (nI R), .ref aB, .ref aS, .ref aT, .int (nI o), .int (nI n), .int (nI en), .int (nI us)]))] hz) := by
  refine Met.ofW (cc := cX1_keep) (maxL := 4) (ret := (some .int)) (by decide) rfl ?_
  intro p e s m args below meth c s₁ B hml hv
  obtain ⟨rfl, hsz, hP, hK, hD0⟩ := hv
  have hx := B.exec
  have hb := B.bytes
  have hr := B.returns
  have hts := atoms_spec (ws := wsX1_keep) B.pre
  have hown : s.vm.findClass RX1 = some m.cls := findClass_of_methodNamed B.named
  have hlocks := B.notSynchronized
  have hi_P : ∀ w ∈ u_ws RX1 TX1 12, w ∈ wsX1_keep := by decide +kernel
  subst hsz
  have hD := hD0.self (sz := s.heap.size)
  generalize hAe : va_A [(aP, .inr (1, [.ref aR, .ref aX, .int (nI ts), .ref aO, .int (nI os), .int (nI uw), .int fr, .int to, .int (nI pw), .int (nI co), .int (nI dr), .int (nI de)])), (aR, .inr (0, [.int (nI R), .ref aB, .ref aS, .ref aT, .int (nI o), .int (nI n), .int (nI en), .int (nI us)]))] s.heap.size = A at hD ⊢
  have hA : ∀ q : Nat, s.heap.size ≤ q → A q := fun q h => by rw [← hAe]; exact Or.inr h
  have hS : va_S A s.heap s.heap [] := va_S.rf
  have hP : va_P (dC, dI) vwCl [(aP, .inr (1, [.ref aR, .ref aX, .int (nI ts), .ref aO, .int (nI os), .int (nI uw), .int fr, .int to, .int (nI pw), .int (nI co), .int (nI dr), .int (nI de)])), (aR, .inr (0, [.int (nI R), .ref aB, .ref aS, .ref aT, .int (nI o), .int (nI n), .int (nI en), .int (nI us)]))] s.heap := hP
  have hl := lv_entry ([.ref aP, .int tim]) (n := 4) (Nat.le_of_ble_eq_true rfl)
  rw [lg_entry_eq]
  generalize (lg_sl ([.ref aP, .int tim]) ++ List.replicate (4 - (lg_sl ([.ref aP, .int tim])).length) Slot.unset).toArray = ls at hl ⊢
  have hl : lv_has ls 4 [(0, .ref aP), (1, .int tim)] := hl
  refine lv_aload_n hx hb dX1_keep_0 rfl (lv_at hl 0 rfl) ?_
  refine va_get (D := (dC, dI)) (ci := 1) (v := .int (nI ts)) (C := RX1) (T := TX1) (N := 12) hx hb hts hi_P hown hK hP 0 rfl rfl 2 (by decide) (hts (.fieldLink RX1 34 "PacketStore" "textSize" "I") (by decide +kernel)) (fun _ h9 => h9) rfl dX1_keep_1 ?_
  refine lv_istore_n (lv' := [(2, .int (nI ts)), (0, .ref aP), (1, .int tim)]) hx hb dX1_keep_4 rfl hl (by decide) rfl (fun ls hl => ?_)
  refine lv_aload_n hx hb dX1_keep_5 rfl (lv_at hl 1 rfl) ?_
  refine lv_iconst (v := nI 0) hx hb dX1_keep_6 (by decide) ?_
  refine va_put (D := (dC, dI)) (ci := 1) (v := .int (nI 0)) (ty := .int) (C := RX1) (T := TX1) (N := 12) hx hb hts hi_P tyX1 tyX1_ok nmX1 hown hK hP hD hS 0 rfl rfl 2 (by decide) (hts (.fieldLink RX1 34 "PacketStore" "textSize" "I") (by decide +kernel)) (fun _ h9 => h9) rfl (by decide +kernel) rfl rfl (Nat.le_of_ble_eq_true rfl) dX1_keep_7 (fun H locs hP hD hS => ?_)
  have hP : va_P (dC, dI) vwCl [(aP, .inr (1, [.ref aR, .ref aX, .int (nI 0), .ref aO, .int (nI os), .int (nI uw), .int fr, .int to, .int (nI pw), .int (nI co), .int (nI dr), .int (nI de)])), (aR, .inr (0, [.int (nI R), .ref aB, .ref aS, .ref aT, .int (nI o), .int (nI n), .int (nI en), .int (nI us)]))] H := hP
  have hD : va_D A [(aP, .inr (1, [.ref aR, .ref aX, .int (nI 0), .ref aO, .int (nI os), .int (nI uw), .int fr, .int to, .int (nI pw), .int (nI co), .int (nI dr), .int (nI de)])), (aR, .inr (0, [.int (nI R), .ref aB, .ref aS, .ref aT, .int (nI o), .int (nI n), .int (nI en), .int (nI us)]))] := hD
  refine lv_iload_n hx hb dX1_keep_10 rfl (lv_at hl 0 rfl) ?_
  refine zz_if_ne (a := ts) (tgt := 16) hx hb dX1_keep_11 (by decide) (by omega) (fun c11 => ?_) (fun c11 => ?_)
  · refine lv_iload_n hx hb dX1_keep_16 rfl (lv_at hl 0 rfl) ?_
    refine lv_aload_n hx hb dX1_keep_17 rfl (lv_at hl 1 rfl) ?_
    refine va_get (D := (dC, dI)) (ci := 1) (v := .ref aR) (C := RX1) (T := TX1) (N := 12) hx hb hts hi_P hown hK hP 0 rfl rfl 0 (by decide) (hts (.fieldLink RX1 23 "PacketStore" "ring" "LPacketStore$Ring;") (by decide +kernel)) (fun _ h9 => h9) rfl dX1_keep_18 ?_
    refine zz_callR (As := []) (rest := [.int (nI ts)]) ⟨hx, hb, hml, hown, hts⟩ (c_R_room l dC dI aR aB aS aT R o n en us) (cwV 0 hts gX1_keep_X0_room rfl rfl rfl (by decide +kernel) ⟨Nat.le_of_ble_eq_true rfl, Nat.le_of_ble_eq_true rfl⟩) (hP.sub [1] rfl) (hK.sub [] rfl) 0 rfl rfl rfl rfl hl.1 rfl (Nat.le_of_ble_eq_true rfl) dX1_keep_21 ⟨Nat.zero_le _, Nat.zero_le _⟩ (fun r21 e21 => ?_)
    subst e21
    refine zz_icmp_le (a := ts) (b := R) (tgt := 30) hx hb dX1_keep_24 (by decide) (by omega) (by omega) (fun c24 => ?_) (fun c24 => ?_)
    · exact absurd c24 (by omega)
    · refine lv_bipush (v := (-2)) hx hb dX1_keep_27 (by decide) ?_
      exact W.iret (v := ((-2))) hx hb hr (fun t ht hW => ⟨⟨_, (), rfl, rfl, by rw [ht]; exact hP, va_K.moved hW.alike hK, hD⟩, hS.F ht⟩) hS.2.2 dX1_keep_29
  · exact absurd c11 (by omega)
set_option maxHeartbeats 4000000 in
set_option maxRecDepth 100000 in
/-- keep(time) -/
theorem c_P_keep_ok (l : Launch) (dC : Nat → ClassId) (dI : Nat → Nat → Nat) (aP aR aB aS aT aX aO R lo hi : Nat) (off : Nat → Nat) (ts os uw : Nat) (fr to : Int32) (pa co dr de : Nat) (cB cS cT cX : ClassId) (Bf Sf Tf Xf : Nat → Int32) (tim : Int32) (tm bz tz : Nat → Int32) (hok : rg_ok R lo hi off) (hrep : rg_rep R lo hi off tm bz Bf Sf Tf) (hpa : pa ≤ hi) (h1 : 1 ≤ ts) (h2 : ts ≤ R) (h5 : ts ≤ 512) (htx : ∀ t, t < ts → Xf t = (tz t).toInt8.toInt32) (hz : Nat) : Met l yX1_keep wsX1_keep ({ frames := 6, cells := 0, slots := 0, locals := 128 }) (va_Pc [.ref aP, .int tim] (fun U => U.heap.size = hz ∧ va_P (dC, dI) vwCl [(aP, .inr (1, [.ref aR, .ref aX, .int (nI ts), .ref aO, .int (nI os), .int (nI uw), .int fr, .int to, .int (nI (pa - lo)), .int (nI co), .int (nI dr), .int (nI de)])), (aR, .inr (0, [.int (nI R), .ref aB, .ref aS, .ref aT, .int (nI (lo % R)), .int (nI (hi - lo)), .int (nI (off hi % R)), .int (nI (off hi - off lo))])), (aB, .inl (cB, R, .inl Bf)), (aS, .inl (cS, R, .inl Sf)), (aT, .inl (cT, R, .inl Tf)), (aX, .inl (cX, 512, .inl Xf))] U.heap ∧ va_K (dC, dI) vwCl [(cB, .byte), (cS, .int), (cT, .int), (cX, .byte)] U ∧ va_D (fun _ => True) [(aP, .inr (1, [.ref aR, .ref aX, .int (nI ts), .ref aO, .int (nI os), .int (nI uw), .int fr, .int to, .int (nI (pa - lo)), .int (nI co), .int (nI dr), .int (nI de)])), (aR, .inr (0, [.int (nI R), .ref aB, .ref aS, .ref aT, .int (nI (lo % R)), .int (nI (hi - lo)), .int (nI (off hi % R)), .int (nI (off hi - off lo))])), (aB, .inl (cB, R, .inl Bf)), (aS, .inl (cS, R, .inl Sf)), (aT, .inl (cT, R, .inl Tf)), (aX, .inl (cX, 512, .inl Xf))])) (va_Qi (fun (r : Int32) (u : Nat × (Nat → Int32)) => r = nI (u.1 - lo) ∧ lo ≤ u.1 ∧ u.1 ≤ hi ∧ off hi - off u.1 + ts ≤ R ∧ (∀ k, lo ≤ k → k < u.1 → R < off hi - off k + ts) ∧ rg_rep R u.1 (hi + 1) (zu off (hi + 1) (off hi + ts)) (zu tm hi tim) (zcat bz (off hi) tz) u.2 (upd Sf (hi % R) (nI (off hi % R))) (upd Tf (hi % R) tim)) (fun u t => va_P (dC, dI) vwCl [(aP, .inr (1, [.ref aR, .ref aX, .int (nI 0), .ref aO, .int (nI os), .int (nI uw), .int fr, .int to, .int (nI (pa - u.1)), .int (nI (co + 1)), .int (nI (dr + (u.1 - lo))), .int (nI de)])), (aR, .inr (0, [.int (nI R), .ref aB, .ref aS, .ref aT, .int (nI (u.1 % R)), .int (nI (hi + 1 - u.1)), .int (nI ((off hi + ts) % R)), .int (nI (off hi + ts - off u.1))])), (aB, .inl (cB, R, .inl u.2)), (aS, .inl (cS, R, .inl (upd Sf (hi % R) (nI (off hi % R))))), (aT, .inl (cT, R, .inl (upd Tf (hi % R) tim))), (aX, .inl (cX, 512, .inl Xf))] t.heap ∧ va_K (dC, dI) vwCl [(cB, .byte), (cS, .int), (cT, .int), (cX, .byte)] t ∧ va_D (va_A [(aP, .inr (1, [.ref aR, .ref aX, .int (nI ts), .ref aO, .int (nI os), .int (nI uw), .int fr, .int to, .int (nI (pa - lo)), .int (nI co), .int (nI dr), .int (nI de)])), (aR, .inr (0, [.int (nI R), .ref aB, .ref aS, .ref aT, .int (nI (lo % R)), .int (nI (hi - lo)), .int (nI (off hi % R)), .int (nI (off hi - off lo))])), (aB, .inl (cB, R, .inl Bf)), (aS, .inl (cS, R, .inl Sf)), (aT, .inl (cT, R, .inl Tf)), (aX, .inl (cX, 512, .inl Xf))] hz) [(aP, .inr (1, [.ref aR, .ref aX, .int (nI 0), .ref aO, .int (nI os), .int (nI uw), .int fr, .int to, .int (nI (pa - u.1)), .int (nI (co + 1)), .int (nI (dr + (u.1 - lo))), .int (nI de)])), (aR, .inr (0, [.int (nI R), .ref aB, .ref aS, .ref aT, .int (nI (u.1 % R)), .int (nI (hi + 1 - u.1)), .int (nI ((off hi + ts) % R)), .int (nI (off hi + ts - off u.1))])), (aB, .inl (cB, R, .inl u.2)), (aS, .inl (cS, R, .inl (upd Sf (hi % R) (nI (off hi % R))))), (aT, .inl (cT, R, .inl (upd Tf (hi % R) tim))), (aX, .inl (cX, 512, .inl Xf))]) (va_A [(aP, .inr (1, [.ref aR, .ref aX, .int (nI ts), .ref aO, .int (nI os), .int (nI uw), .int fr, .int to, .int (nI (pa - lo)), .int (nI co), .int (nI dr), .int (nI de)])), (aR, .inr (0, [.int (nI R), .ref aB, .ref aS, .ref aT, .int (nI (lo % R)), .int (nI (hi - lo)), .int (nI (off hi % R)), .int (nI (off hi - off lo))])), (aB, .inl (cB, R, .inl Bf)), (aS, .inl (cS, R, .inl Sf)), (aT, .inl (cT, R, .inl Tf)), (aX, .inl (cX, 512, .inl Xf))] hz)) 0 0 (va_A [(aP, .inr (1, [.ref aR, .ref aX, .int (nI ts), .ref aO, .int (nI os), .int (nI uw), .int fr, .int to, .int (nI (pa - lo)), .int (nI co), .int (nI dr), .int (nI de)])), (aR, .inr (0, [.int (nI R), .ref aB, .ref aS, .ref aT, .int (nI (lo % R)), .int (nI (hi - lo)), .int (nI (off hi % R)), .int (nI (off hi - off lo))])), (aB, .inl (cB, R, .inl Bf)), (aS, .inl (cS, R, .inl Sf)), (aT, .inl (cT, R, .inl Tf)), (aX, .inl (cX, 512, .inl Xf))] hz) := by
  refine Met.ofW (cc := cX1_keep) (maxL := 4) (ret := (some .int)) (by decide) rfl ?_
  intro p e s m args below meth c s₁ B hml hv
  obtain ⟨rfl, hsz, hP, hK, hD0⟩ := hv
  have hx := B.exec
  have hb := B.bytes
  have hr := B.returns
  have hts := atoms_spec (ws := wsX1_keep) B.pre
  have hown : s.vm.findClass RX1 = some m.cls := findClass_of_methodNamed B.named
  have hlocks := B.notSynchronized
  have hi_P : ∀ w ∈ u_ws RX1 TX1 12, w ∈ wsX1_keep := by decide +kernel
  subst hsz
  have hD := hD0.self (sz := s.heap.size)
  generalize hAe : va_A [(aP, .inr (1, [.ref aR, .ref aX, .int (nI ts), .ref aO, .int (nI os), .int (nI uw), .int fr, .int to, .int (nI (pa - lo)), .int (nI co), .int (nI dr), .int (nI de)])), (aR, .inr (0, [.int (nI R), .ref aB, .ref aS, .ref aT, .int (nI (lo % R)), .int (nI (hi - lo)), .int (nI (off hi % R)), .int (nI (off hi - off lo))])), (aB, .inl (cB, R, .inl Bf)), (aS, .inl (cS, R, .inl Sf)), (aT, .inl (cT, R, .inl Tf)), (aX, .inl (cX, 512, .inl Xf))] s.heap.size = A at hD ⊢
  have hA : ∀ q : Nat, s.heap.size ≤ q → A q := fun q h => by rw [← hAe]; exact Or.inr h
  have hS : va_S A s.heap s.heap [] := va_S.rf
  have hP : va_P (dC, dI) vwCl [(aP, .inr (1, [.ref aR, .ref aX, .int (nI ts), .ref aO, .int (nI os), .int (nI uw), .int fr, .int to, .int (nI (pa - lo)), .int (nI co), .int (nI dr), .int (nI de)])), (aR, .inr (0, [.int (nI R), .ref aB, .ref aS, .ref aT, .int (nI (lo % R)), .int (nI (hi - lo)), .int (nI (off hi % R)), .int (nI (off hi - off lo))])), (aB, .inl (cB, R, .inl Bf)), (aS, .inl (cS, R, .inl Sf)), (aT, .inl (cT, R, .inl Tf)), (aX, .inl (cX, 512, .inl Xf))] s.heap := hP
  have hl := lv_entry ([.ref aP, .int tim]) (n := 4) (Nat.le_of_ble_eq_true rfl)
  rw [lg_entry_eq]
  generalize (lg_sl ([.ref aP, .int tim]) ++ List.replicate (4 - (lg_sl ([.ref aP, .int tim])).length) Slot.unset).toArray = ls at hl ⊢
  have hl : lv_has ls 4 [(0, .ref aP), (1, .int tim)] := hl
  have hRR := hok.1
  have hll := hok.2.1
  have hcap := hok.2.2.1
  have hgap := hok.gap (Nat.le_refl lo) hll (Nat.le_refl hi)
  refine lv_aload_n hx hb dX1_keep_0 rfl (lv_at hl 0 rfl) ?_
  refine va_get (D := (dC, dI)) (ci := 1) (v := .int (nI ts)) (C := RX1) (T := TX1) (N := 12) hx hb hts hi_P hown hK hP 0 rfl rfl 2 (by decide) (hts (.fieldLink RX1 34 "PacketStore" "textSize" "I") (by decide +kernel)) (fun _ h9 => h9) rfl dX1_keep_1 ?_
  refine lv_istore_n (lv' := [(2, .int (nI ts)), (0, .ref aP), (1, .int tim)]) hx hb dX1_keep_4 rfl hl (by decide) rfl (fun ls hl => ?_)
  refine lv_aload_n hx hb dX1_keep_5 rfl (lv_at hl 1 rfl) ?_
  refine lv_iconst (v := nI 0) hx hb dX1_keep_6 (by decide) ?_
  refine va_put (D := (dC, dI)) (ci := 1) (v := .int (nI 0)) (ty := .int) (C := RX1) (T := TX1) (N := 12) hx hb hts hi_P tyX1 tyX1_ok nmX1 hown hK hP hD hS 0 rfl rfl 2 (by decide) (hts (.fieldLink RX1 34 "PacketStore" "textSize" "I") (by decide +kernel)) (fun _ h9 => h9) rfl (by decide +kernel) rfl rfl (Nat.le_of_ble_eq_true rfl) dX1_keep_7 (fun H locs hP hD hS => ?_)
  have hP : va_P (dC, dI) vwCl [(aP, .inr (1, [.ref aR, .ref aX, .int (nI 0), .ref aO, .int (nI os), .int (nI uw), .int fr, .int to, .int (nI (pa - lo)), .int (nI co), .int (nI dr), .int (nI de)])), (aR, .inr (0, [.int (nI R), .ref aB, .ref aS, .ref aT, .int (nI (lo % R)), .int (nI (hi - lo)), .int (nI (off hi % R)), .int (nI (off hi - off lo))])), (aB, .inl (cB, R, .inl Bf)), (aS, .inl (cS, R, .inl Sf)), (aT, .inl (cT, R, .inl Tf)), (aX, .inl (cX, 512, .inl Xf))] H := hP
  have hD : va_D A [(aP, .inr (1, [.ref aR, .ref aX, .int (nI 0), .ref aO, .int (nI os), .int (nI uw), .int fr, .int to, .int (nI (pa - lo)), .int (nI co), .int (nI dr), .int (nI de)])), (aR, .inr (0, [.int (nI R), .ref aB, .ref aS, .ref aT, .int (nI (lo % R)), .int (nI (hi - lo)), .int (nI (off hi % R)), .int (nI (off hi - off lo))])), (aB, .inl (cB, R, .inl Bf)), (aS, .inl (cS, R, .inl Sf)), (aT, .inl (cT, R, .inl Tf)), (aX, .inl (cX, 512, .inl Xf))] := hD
  refine lv_iload_n hx hb dX1_keep_10 rfl (lv_at hl 0 rfl) ?_
  refine zz_if_ne (a := ts) (tgt := 16) hx hb dX1_keep_11 (by decide) (by omega) (fun c11 => ?_) (fun c11 => ?_)
  · refine lv_iload_n hx hb dX1_keep_16 rfl (lv_at hl 0 rfl) ?_
    refine lv_aload_n hx hb dX1_keep_17 rfl (lv_at hl 1 rfl) ?_
    refine va_get (D := (dC, dI)) (ci := 1) (v := .ref aR) (C := RX1) (T := TX1) (N := 12) hx hb hts hi_P hown hK hP 0 rfl rfl 0 (by decide) (hts (.fieldLink RX1 23 "PacketStore" "ring" "LPacketStore$Ring;") (by decide +kernel)) (fun _ h9 => h9) rfl dX1_keep_18 ?_
    refine zz_callR (As := []) (rest := [.int (nI ts)]) ⟨hx, hb, hml, hown, hts⟩ (c_R_room l dC dI aR aB aS aT R (lo % R) (hi - lo) (off hi % R) (off hi - off lo)) (cwV 0 hts gX1_keep_X0_room rfl rfl rfl (by decide +kernel) ⟨Nat.le_of_ble_eq_true rfl, Nat.le_of_ble_eq_true rfl⟩) (hP.sub [1] rfl) (hK.sub [] rfl) 0 rfl rfl rfl rfl hl.1 rfl (Nat.le_of_ble_eq_true rfl) dX1_keep_21 ⟨Nat.zero_le _, Nat.zero_le _⟩ (fun r21 e21 => ?_)
    subst e21
    refine zz_icmp_le (a := ts) (b := R) (tgt := 30) hx hb dX1_keep_24 (by decide) (by omega) (by omega) (fun c24 => ?_) (fun c24 => ?_)
    · refine lv_aload_n hx hb dX1_keep_30 rfl (lv_at hl 1 rfl) ?_
      refine lv_iload_n hx hb dX1_keep_31 rfl (lv_at hl 0 rfl) ?_
      refine zz_callMi (As := [.int (nI ts)]) (rest := []) (wr := [(aB, .inl (cB, R, .inl Bf)), (aT, .inl (cT, R, .inl Tf)), (aX, .inl (cX, 512, .inl Xf))]) ⟨hx, hb, hml, hown, hts⟩ (c_P_makeRoom l dC dI aP aR aB aS aT aX aO R lo hi off 0 os uw fr to pa co dr de cS Sf ts hok hrep.2.1 hpa (by omega) _) (cwV 1 hts gX1_keep_X1_makeRoom rfl rfl rfl (by decide +kernel) ⟨Nat.le_of_ble_eq_true rfl, Nat.le_of_ble_eq_true rfl⟩) hP hD hK hS hA [0, 1, 3] [2, 4, 5] [1] rfl rfl rfl (by decide) (by decide) (by decide) rfl 0 rfl rfl rfl rfl hl.1 rfl (Nat.le_of_ble_eq_true rfl) dX1_keep_32 ⟨Nat.zero_le _, Nat.zero_le _⟩ (fun r32 u32 H locs e32 hP hD hS => ?_)
      have hP : va_P (dC, dI) vwCl [(aB, .inl (cB, R, .inl Bf)), (aT, .inl (cT, R, .inl Tf)), (aX, .inl (cX, 512, .inl Xf)), (aP, .inr (1, [.ref aR, .ref aX, .int (nI 0), .ref aO, .int (nI os), .int (nI uw), .int fr, .int to, .int (nI (pa - u32)), .int (nI co), .int (nI dr), .int (nI de)])), (aR, .inr (0, [.int (nI R), .ref aB, .ref aS, .ref aT, .int (nI (u32 % R)), .int (nI (hi - u32)), .int (nI (off hi % R)), .int (nI (off hi - off u32))])), (aS, .inl (cS, R, .inl Sf))] H := hP
      have hD : va_D A [(aB, .inl (cB, R, .inl Bf)), (aT, .inl (cT, R, .inl Tf)), (aX, .inl (cX, 512, .inl Xf)), (aP, .inr (1, [.ref aR, .ref aX, .int (nI 0), .ref aO, .int (nI os), .int (nI uw), .int fr, .int to, .int (nI (pa - u32)), .int (nI co), .int (nI dr), .int (nI de)])), (aR, .inr (0, [.int (nI R), .ref aB, .ref aS, .ref aT, .int (nI (u32 % R)), .int (nI (hi - u32)), .int (nI (off hi % R)), .int (nI (off hi - off u32))])), (aS, .inl (cS, R, .inl Sf))] := hD
      obtain ⟨e32r, e32a, e32b, e32c, e32d⟩ := e32
      subst e32r
      have hok2 := hok.drop e32a e32b
      refine lv_istore_n (lv' := [(3, .int (nI (u32 - lo))), (2, .int (nI ts)), (0, .ref aP), (1, .int tim)]) hx hb dX1_keep_35 rfl hl (by decide) rfl (fun ls hl => ?_)
      refine lv_aload_n hx hb dX1_keep_36 rfl (lv_at hl 2 rfl) ?_
      refine va_get (D := (dC, dI)) (ci := 1) (v := .ref aR) (C := RX1) (T := TX1) (N := 12) hx hb hts hi_P hown hK hP 3 rfl rfl 0 (by decide) (hts (.fieldLink RX1 23 "PacketStore" "ring" "LPacketStore$Ring;") (by decide +kernel)) (fun _ h9 => h9) rfl dX1_keep_37 ?_
      refine lv_aload_n hx hb dX1_keep_40 rfl (lv_at hl 2 rfl) ?_
      refine va_get (D := (dC, dI)) (ci := 1) (v := .ref aX) (C := RX1) (T := TX1) (N := 12) hx hb hts hi_P hown hK hP 3 rfl rfl 1 (by decide) (hts (.fieldLink RX1 27 "PacketStore" "text" "[B") (by decide +kernel)) (fun _ h9 => h9) rfl dX1_keep_41 ?_
      refine lv_iload_n hx hb dX1_keep_44 rfl (lv_at hl 1 rfl) ?_
      refine lv_iload_n hx hb dX1_keep_45 rfl (lv_at hl 3 rfl) ?_
      refine zz_callMv (As := [.ref aX, .int (nI ts), .int tim]) (rest := []) (wr := [(aP, .inr (1, [.ref aR, .ref aX, .int (nI 0), .ref aO, .int (nI os), .int (nI uw), .int fr, .int to, .int (nI (pa - u32)), .int (nI co), .int (nI dr), .int (nI de)]))]) ⟨hx, hb, hml, hown, hts⟩ (c_R_add l dC dI aR aB aS aT R u32 hi off cB cS cT cX Bf Sf Tf aX Xf tz ts tim hok2 (by omega) (by omega) e32c htx _) (cwV 3 hts gX1_keep_X0_add rfl rfl rfl (by decide +kernel) ⟨Nat.le_of_ble_eq_true rfl, Nat.le_of_ble_eq_true rfl⟩) hP hD hK hS hA [4, 0, 5, 1, 2] [3] [0, 1, 2, 3] rfl rfl rfl (by decide) (by decide) (by decide) rfl 0 rfl rfl rfl rfl hl.1 rfl (Nat.le_of_ble_eq_true rfl) dX1_keep_46 ⟨Nat.zero_le _, Nat.zero_le _⟩ (fun u46 H locs e46 hP hD hS => ?_)
      have hP : va_P (dC, dI) vwCl [(aP, .inr (1, [.ref aR, .ref aX, .int (nI 0), .ref aO, .int (nI os), .int (nI uw), .int fr, .int to, .int (nI (pa - u32)), .int (nI co), .int (nI dr), .int (nI de)])), (aR, .inr (0, [.int (nI R), .ref aB, .ref aS, .ref aT, .int (nI (u32 % R)), .int (nI (hi + 1 - u32)), .int (nI ((off hi + ts) % R)), .int (nI (off hi + ts - off u32))])), (aB, .inl (cB, R, .inl u46)), (aS, .inl (cS, R, .inl (upd Sf (hi % R) (nI (off hi % R))))), (aT, .inl (cT, R, .inl (upd Tf (hi % R) tim))), (aX, .inl (cX, 512, .inl Xf))] H := hP
      have hD : va_D A [(aP, .inr (1, [.ref aR, .ref aX, .int (nI 0), .ref aO, .int (nI os), .int (nI uw), .int fr, .int to, .int (nI (pa - u32)), .int (nI co), .int (nI dr), .int (nI de)])), (aR, .inr (0, [.int (nI R), .ref aB, .ref aS, .ref aT, .int (nI (u32 % R)), .int (nI (hi + 1 - u32)), .int (nI ((off hi + ts) % R)), .int (nI (off hi + ts - off u32))])), (aB, .inl (cB, R, .inl u46)), (aS, .inl (cS, R, .inl (upd Sf (hi % R) (nI (off hi % R))))), (aT, .inl (cT, R, .inl (upd Tf (hi % R) tim))), (aX, .inl (cX, 512, .inl Xf))] := hD
      refine lv_aload_n hx hb dX1_keep_49 rfl (lv_at hl 2 rfl) ?_
      refine lv_dup hx hb dX1_keep_50 rfl ?_
      refine va_get (D := (dC, dI)) (ci := 1) (v := .int (nI dr)) (C := RX1) (T := TX1) (N := 12) hx hb hts hi_P hown hK hP 0 rfl rfl 10 (by decide) (hts (.fieldLink RX1 50 "PacketStore" "drivenOut" "I") (by decide +kernel)) (fun _ h9 => h9) rfl dX1_keep_51 ?_
      refine lv_iload_n hx hb dX1_keep_54 rfl (lv_at hl 0 rfl) ?_
      refine lv_iadd hx hb dX1_keep_55 ?_
      refine zz_as (nI (dr + (u32 - lo))) (nI_add _ _) ?_
      refine va_put (D := (dC, dI)) (ci := 1) (v := .int (nI (dr + (u32 - lo)))) (ty := .int) (C := RX1) (T := TX1) (N := 12) hx hb hts hi_P tyX1 tyX1_ok nmX1 hown hK hP hD hS 0 rfl rfl 10 (by decide) (hts (.fieldLink RX1 50 "PacketStore" "drivenOut" "I") (by decide +kernel)) (fun _ h9 => h9) rfl (by decide +kernel) rfl rfl (Nat.le_of_ble_eq_true rfl) dX1_keep_56 (fun H locs hP hD hS => ?_)
      have hP : va_P (dC, dI) vwCl [(aP, .inr (1, [.ref aR, .ref aX, .int (nI 0), .ref aO, .int (nI os), .int (nI uw), .int fr, .int to, .int (nI (pa - u32)), .int (nI co), .int (nI (dr + (u32 - lo))), .int (nI de)])), (aR, .inr (0, [.int (nI R), .ref aB, .ref aS, .ref aT, .int (nI (u32 % R)), .int (nI (hi + 1 - u32)), .int (nI ((off hi + ts) % R)), .int (nI (off hi + ts - off u32))])), (aB, .inl (cB, R, .inl u46)), (aS, .inl (cS, R, .inl (upd Sf (hi % R) (nI (off hi % R))))), (aT, .inl (cT, R, .inl (upd Tf (hi % R) tim))), (aX, .inl (cX, 512, .inl Xf))] H := hP
      have hD : va_D A [(aP, .inr (1, [.ref aR, .ref aX, .int (nI 0), .ref aO, .int (nI os), .int (nI uw), .int fr, .int to, .int (nI (pa - u32)), .int (nI co), .int (nI (dr + (u32 - lo))), .int (nI de)])), (aR, .inr (0, [.int (nI R), .ref aB, .ref aS, .ref aT, .int (nI (u32 % R)), .int (nI (hi + 1 - u32)), .int (nI ((off hi + ts) % R)), .int (nI (off hi + ts - off u32))])), (aB, .inl (cB, R, .inl u46)), (aS, .inl (cS, R, .inl (upd Sf (hi % R) (nI (off hi % R))))), (aT, .inl (cT, R, .inl (upd Tf (hi % R) tim))), (aX, .inl (cX, 512, .inl Xf))] := hD
      refine lv_aload_n hx hb dX1_keep_59 rfl (lv_at hl 2 rfl) ?_
      refine lv_dup hx hb dX1_keep_60 rfl ?_
      refine va_get (D := (dC, dI)) (ci := 1) (v := .int (nI co)) (C := RX1) (T := TX1) (N := 12) hx hb hts hi_P hown hK hP 0 rfl rfl 9 (by decide) (hts (.fieldLink RX1 53 "PacketStore" "come" "I") (by decide +kernel)) (fun _ h9 => h9) rfl dX1_keep_61 ?_
      refine lv_iconst (v := nI 1) hx hb dX1_keep_64 (by decide) ?_
      refine lv_iadd hx hb dX1_keep_65 ?_
      refine zz_as (nI (co + 1)) (nI_add _ _) ?_
      refine va_put (D := (dC, dI)) (ci := 1) (v := .int (nI (co + 1))) (ty := .int) (C := RX1) (T := TX1) (N := 12) hx hb hts hi_P tyX1 tyX1_ok nmX1 hown hK hP hD hS 0 rfl rfl 9 (by decide) (hts (.fieldLink RX1 53 "PacketStore" "come" "I") (by decide +kernel)) (fun _ h9 => h9) rfl (by decide +kernel) rfl rfl (Nat.le_of_ble_eq_true rfl) dX1_keep_66 (fun H locs hP hD hS => ?_)
      have hP : va_P (dC, dI) vwCl [(aP, .inr (1, [.ref aR, .ref aX, .int (nI 0), .ref aO, .int (nI os), .int (nI uw), .int fr, .int to, .int (nI (pa - u32)), .int (nI (co + 1)), .int (nI (dr + (u32 - lo))), .int (nI de)])), (aR, .inr (0, [.int (nI R), .ref aB, .ref aS, .ref aT, .int (nI (u32 % R)), .int (nI (hi + 1 - u32)), .int (nI ((off hi + ts) % R)), .int (nI (off hi + ts - off u32))])), (aB, .inl (cB, R, .inl u46)), (aS, .inl (cS, R, .inl (upd Sf (hi % R) (nI (off hi % R))))), (aT, .inl (cT, R, .inl (upd Tf (hi % R) tim))), (aX, .inl (cX, 512, .inl Xf))] H := hP
      have hD : va_D A [(aP, .inr (1, [.ref aR, .ref aX, .int (nI 0), .ref aO, .int (nI os), .int (nI uw), .int fr, .int to, .int (nI (pa - u32)), .int (nI (co + 1)), .int (nI (dr + (u32 - lo))), .int (nI de)])), (aR, .inr (0, [.int (nI R), .ref aB, .ref aS, .ref aT, .int (nI (u32 % R)), .int (nI (hi + 1 - u32)), .int (nI ((off hi + ts) % R)), .int (nI (off hi + ts - off u32))])), (aB, .inl (cB, R, .inl u46)), (aS, .inl (cS, R, .inl (upd Sf (hi % R) (nI (off hi % R))))), (aT, .inl (cT, R, .inl (upd Tf (hi % R) tim))), (aX, .inl (cX, 512, .inl Xf))] := hD
      refine lv_iload_n hx hb dX1_keep_69 rfl (lv_at hl 0 rfl) ?_
      have hP := hP.sub (ws' := [(aP, .inr (1, [.ref aR, .ref aX, .int (nI 0), .ref aO, .int (nI os), .int (nI uw), .int fr, .int to, .int (nI (pa - u32)), .int (nI (co + 1)), .int (nI (dr + (u32 - lo))), .int (nI de)])), (aR, .inr (0, [.int (nI R), .ref aB, .ref aS, .ref aT, .int (nI (u32 % R)), .int (nI (hi + 1 - u32)), .int (nI ((off hi + ts) % R)), .int (nI (off hi + ts - off u32))])), (aB, .inl (cB, R, .inl u46)), (aS, .inl (cS, R, .inl (upd Sf (hi % R) (nI (off hi % R))))), (aT, .inl (cT, R, .inl (upd Tf (hi % R) tim))), (aX, .inl (cX, 512, .inl Xf))]) [0, 1, 2, 3, 4, 5] rfl
      have hD := hD.sub (ws' := [(aP, .inr (1, [.ref aR, .ref aX, .int (nI 0), .ref aO, .int (nI os), .int (nI uw), .int fr, .int to, .int (nI (pa - u32)), .int (nI (co + 1)), .int (nI (dr + (u32 - lo))), .int (nI de)])), (aR, .inr (0, [.int (nI R), .ref aB, .ref aS, .ref aT, .int (nI (u32 % R)), .int (nI (hi + 1 - u32)), .int (nI ((off hi + ts) % R)), .int (nI (off hi + ts - off u32))])), (aB, .inl (cB, R, .inl u46)), (aS, .inl (cS, R, .inl (upd Sf (hi % R) (nI (off hi % R))))), (aT, .inl (cT, R, .inl (upd Tf (hi % R) tim))), (aX, .inl (cX, 512, .inl Xf))]) [0, 1, 2, 3, 4, 5] (by decide) rfl
      exact W.iret (v := (nI (u32 - lo))) hx hb hr (fun t ht hW => ⟨⟨_, (u32, u46), rfl, ⟨rfl, e32a, e32b, e32c, e32d, (hrep.drop hok e32a e32b).add hok2 h1 e32c e46.1 e46.2⟩, by rw [ht]; exact hP, va_K.moved hW.alike hK, hD⟩, hS.F ht⟩) hS.2.2 dX1_keep_70
    · exact absurd c24 (by omega)
  · exact absurd c11 (by omega)
set_option maxHeartbeats 4000000 in
set_option maxRecDepth 100000 in
/-- delete(time) -/
theorem c_P_delete (l : Launch) (dC : Nat → ClassId) (dI : Nat → Nat → Nat) (aP aR aB aS aT aX aO R lo hi : Nat) (off : Nat → Nat) (ts os uw : Nat) (fr to : Int32) (pa co dr de : Nat) (cS cT : ClassId) (Sf Tf tm : Nat → Int32) (tim : Int32) (hok : rg_ok R lo hi off) (hst : ∀ i, lo ≤ i → i < hi → Sf (i % R) = nI (off i % R)) (htm : ∀ i, lo ≤ i → i < hi → Tf (i % R) = tm i) (hpa : pa ≤ hi) (hz : Nat) : Met l yX1_delete wsX1_delete ({ frames := 5, cells := 0, slots := 0, locals := 105 }) (va_Pc [.ref aP, .int tim] (fun U => U.heap.size = hz ∧ va_P (dC, dI) vwCl [(aP, .inr (1, [.ref aR, .ref aX, .int (nI ts), .ref aO, .int (nI os), .int (nI uw), .int fr, .int to, .int (nI (pa - lo)), .int (nI co), .int (nI dr), .int (nI de)])), (aR, .inr (0, [.int (nI R), .ref aB, .ref aS, .ref aT, .int (nI (lo % R)), .int (nI (hi - lo)), .int (nI (off hi % R)), .int (nI (off hi - off lo))])), (aS, .inl (cS, R, .inl Sf)), (aT, .inl (cT, R, .inl Tf))] U.heap ∧ va_K (dC, dI) vwCl [(cS, .int), (cT, .int)] U ∧ va_D (fun _ => True) [(aP, .inr (1, [.ref aR, .ref aX, .int (nI ts), .ref aO, .int (nI os), .int (nI uw), .int fr, .int to, .int (nI (pa - lo)), .int (nI co), .int (nI dr), .int (nI de)])), (aR, .inr (0, [.int (nI R), .ref aB, .ref aS, .ref aT, .int (nI (lo % R)), .int (nI (hi - lo)), .int (nI (off hi % R)), .int (nI (off hi - off lo))])), (aS, .inl (cS, R, .inl Sf)), (aT, .inl (cT, R, .inl Tf))])) (va_Qi (fun (r : Int32) (u : Nat) => r = nI (u - lo) ∧ lo ≤ u ∧ u ≤ hi ∧ (∀ k, lo ≤ k → k < u → ¬ tim < tm k) ∧ (u < hi → tim < tm u)) (fun u t => va_P (dC, dI) vwCl [(aP, .inr (1, [.ref aR, .ref aX, .int (nI ts), .ref aO, .int (nI os), .int (nI uw), .int fr, .int to, .int (nI (pa - u)), .int (nI co), .int (nI dr), .int (nI (de + (u - lo)))])), (aR, .inr (0, [.int (nI R), .ref aB, .ref aS, .ref aT, .int (nI (u % R)), .int (nI (hi - u)), .int (nI (off hi % R)), .int (nI (off hi - off u))])), (aS, .inl (cS, R, .inl Sf)), (aT, .inl (cT, R, .inl Tf))] t.heap ∧ va_K (dC, dI) vwCl [(cS, .int), (cT, .int)] t ∧ va_D (va_A [(aP, .inr (1, [.ref aR, .ref aX, .int (nI ts), .ref aO, .int (nI os), .int (nI uw), .int fr, .int to, .int (nI (pa - lo)), .int (nI co), .int (nI dr), .int (nI de)])), (aR, .inr (0, [.int (nI R), .ref aB, .ref aS, .ref aT, .int (nI (lo % R)), .int (nI (hi - lo)), .int (nI (off hi % R)), .int (nI (off hi - off lo))])), (aS, .inl (cS, R, .inl Sf)), (aT, .inl (cT, R, .inl Tf))] hz) [(aP, .inr (1, [.ref aR, .ref aX, .int (nI ts), .ref aO, .int (nI os), .int (nI uw), .int fr, .int to, .int (nI (pa - u)), .int (nI co), .int (nI dr), .int (nI (de + (u - lo)))])), (aR, .inr (0, [.int (nI R), .ref aB, .ref aS, .ref aT, .int (nI (u % R)), .int (nI (hi - u)), .int (nI (off hi % R)), .int (nI (off hi - off u))])), (aS, .inl (cS, R, .inl Sf)), (aT, .inl (cT, R, .inl Tf))]) (va_A [(aP, .inr (1, [.ref aR, .ref aX, .int (nI ts), .ref aO, .int (nI os), .int (nI uw), .int fr, .int to, .int (nI (pa - lo)), .int (nI co), .int (nI dr), .int (nI de)])), (aR, .inr (0, [.int (nI R), .ref aB, .ref aS, .ref aT, .int (nI (lo % R)), .int (nI (hi - lo)), .int (nI (off hi % R)), .int (nI (off hi - off lo))])), (aS, .inl (cS, R, .inl Sf)), (aT, .inl (cT, R, .inl Tf))] hz)) 0 0 (va_A [(aP, .inr (1, [.ref aR, .ref aX, .int (nI ts), .ref aO, .int (nI os), .int (nI uw), .int fr, .int to, .int (nI (pa - lo)), .int (nI co), .int (nI dr), .int (nI de)])), (aR, .inr (0, [.int (nI R), .ref aB, .ref aS, .ref aT, .int (nI (lo % R)), .int (nI (hi - lo)), .int (nI (off hi % R)), .int (nI (off hi - off lo))])), (aS, .inl (cS, R, .inl Sf)), (aT, .inl (cT, R, .inl Tf))] hz) := by
  refine Met.ofW (cc := cX1_delete) (maxL := 4) (ret := (some .int)) (by decide) rfl ?_
  intro p e s m args below meth c s₁ B hml hv
  obtain ⟨rfl, hsz, hP, hK, hD0⟩ := hv
  have hx := B.exec
  have hb := B.bytes
  have hr := B.returns
  have hts := atoms_spec (ws := wsX1_delete) B.pre
  have hown : s.vm.findClass RX1 = some m.cls := findClass_of_methodNamed B.named
  have hlocks := B.notSynchronized
  have hi_P : ∀ w ∈ u_ws RX1 TX1 12, w ∈ wsX1_delete := by decide +kernel
  subst hsz
  have hD := hD0.self (sz := s.heap.size)
  generalize hAe : va_A [(aP, .inr (1, [.ref aR, .ref aX, .int (nI ts), .ref aO, .int (nI os), .int (nI uw), .int fr, .int to, .int (nI (pa - lo)), .int (nI co), .int (nI dr), .int (nI de)])), (aR, .inr (0, [.int (nI R), .ref aB, .ref aS, .ref aT, .int (nI (lo % R)), .int (nI (hi - lo)), .int (nI (off hi % R)), .int (nI (off hi - off lo))])), (aS, .inl (cS, R, .inl Sf)), (aT, .inl (cT, R, .inl Tf))] s.heap.size = A at hD ⊢
  have hA : ∀ q : Nat, s.heap.size ≤ q → A q := fun q h => by rw [← hAe]; exact Or.inr h
  have hS : va_S A s.heap s.heap [] := va_S.rf
  have hP : va_P (dC, dI) vwCl [(aP, .inr (1, [.ref aR, .ref aX, .int (nI ts), .ref aO, .int (nI os), .int (nI uw), .int fr, .int to, .int (nI (pa - lo)), .int (nI co), .int (nI dr), .int (nI de)])), (aR, .inr (0, [.int (nI R), .ref aB, .ref aS, .ref aT, .int (nI (lo % R)), .int (nI (hi - lo)), .int (nI (off hi % R)), .int (nI (off hi - off lo))])), (aS, .inl (cS, R, .inl Sf)), (aT, .inl (cT, R, .inl Tf))] s.heap := hP
  have hl := lv_entry ([.ref aP, .int tim]) (n := 4) (Nat.le_of_ble_eq_true rfl)
  rw [lg_entry_eq]
  generalize (lg_sl ([.ref aP, .int tim]) ++ List.replicate (4 - (lg_sl ([.ref aP, .int tim])).length) Slot.unset).toArray = ls at hl ⊢
  have hl : lv_has ls 4 [(0, .ref aP), (1, .int tim)] := hl
  have hRR := hok.1
  have hll := hok.2.1
  have hcap := hok.2.2.1
  have hgap := hok.gap (Nat.le_refl lo) hll (Nat.le_refl hi)
  refine lv_aload_n hx hb dX1_delete_0 rfl (lv_at hl 0 rfl) ?_
  refine va_get (D := (dC, dI)) (ci := 1) (v := .ref aR) (C := RX1) (T := TX1) (N := 12) hx hb hts hi_P hown hK hP 0 rfl rfl 0 (by decide) (hts (.fieldLink RX1 23 "PacketStore" "ring" "LPacketStore$Ring;") (by decide +kernel)) (fun _ h9 => h9) rfl dX1_delete_1 ?_
  refine zz_callR (As := []) (rest := []) ⟨hx, hb, hml, hown, hts⟩ (c_R_packets l dC dI aR aB aS aT R (lo % R) (hi - lo) (off hi % R) (off hi - off lo)) (cwV 0 hts gX1_delete_X0_packets rfl rfl rfl (by decide +kernel) ⟨Nat.le_of_ble_eq_true rfl, Nat.le_of_ble_eq_true rfl⟩) (hP.sub [1] rfl) (hK.sub [] rfl) 0 rfl rfl rfl rfl hl.1 rfl (Nat.le_of_ble_eq_true rfl) dX1_delete_4 ⟨Nat.zero_le _, Nat.zero_le _⟩ (fun r4 e4 => ?_)
  subst e4
  refine lv_istore_n (lv' := [(2, .int (nI (hi - lo))), (0, .ref aP), (1, .int tim)]) hx hb dX1_delete_7 rfl hl (by decide) rfl (fun ls hl => ?_)
  refine lv_iconst (v := nI 0) hx hb dX1_delete_8 (by decide) ?_
  refine lv_istore_n (lv' := [(3, .int (nI 0)), (2, .int (nI (hi - lo))), (0, .ref aP), (1, .int tim)]) hx hb dX1_delete_9 rfl hl (by decide) rfl (fun ls hl => ?_)
  have hP := hP.sub (ws' := [(aT, .inl (cT, R, .inl Tf)), (aP, .inr (1, [.ref aR, .ref aX, .int (nI ts), .ref aO, .int (nI os), .int (nI uw), .int fr, .int to, .int (nI (pa - lo)), .int (nI co), .int (nI dr), .int (nI de)])), (aR, .inr (0, [.int (nI R), .ref aB, .ref aS, .ref aT, .int (nI (lo % R)), .int (nI (hi - lo)), .int (nI (off hi % R)), .int (nI (off hi - off lo))])), (aS, .inl (cS, R, .inl Sf))]) [3, 0, 1, 2] rfl
  have hD := hD.sub (ws' := [(aT, .inl (cT, R, .inl Tf)), (aP, .inr (1, [.ref aR, .ref aX, .int (nI ts), .ref aO, .int (nI os), .int (nI uw), .int fr, .int to, .int (nI (pa - lo)), .int (nI co), .int (nI dr), .int (nI de)])), (aR, .inr (0, [.int (nI R), .ref aB, .ref aS, .ref aT, .int (nI (lo % R)), .int (nI (hi - lo)), .int (nI (off hi % R)), .int (nI (off hi - off lo))])), (aS, .inl (cS, R, .inl Sf))]) [3, 0, 1, 2] (by decide) rfl
  refine zz_loop (σ := Nat) (fun n v H locs ls => (n + v = hi - lo + 1 ∧ v ≤ hi - lo ∧ ∀ k, lo ≤ k → k < lo + v → ¬ tim < tm k) ∧ va_P (dC, dI) vwCl [(aT, .inl (cT, R, .inl Tf)), (aP, .inr (1, [.ref aR, .ref aX, .int (nI ts), .ref aO, .int (nI os), .int (nI uw), .int fr, .int to, .int (nI (pa - (lo + v))), .int (nI co), .int (nI dr), .int (nI de)])), (aR, .inr (0, [.int (nI R), .ref aB, .ref aS, .ref aT, .int (nI ((lo + v) % R)), .int (nI (hi - (lo + v))), .int (nI (off hi % R)), .int (nI (off hi - off (lo + v)))])), (aS, .inl (cS, R, .inl Sf))] H ∧ va_D A [(aT, .inl (cT, R, .inl Tf)), (aP, .inr (1, [.ref aR, .ref aX, .int (nI ts), .ref aO, .int (nI os), .int (nI uw), .int fr, .int to, .int (nI (pa - (lo + v))), .int (nI co), .int (nI dr), .int (nI de)])), (aR, .inr (0, [.int (nI R), .ref aB, .ref aS, .ref aT, .int (nI ((lo + v) % R)), .int (nI (hi - (lo + v))), .int (nI (off hi % R)), .int (nI (off hi - off (lo + v)))])), (aS, .inl (cS, R, .inl Sf))] ∧ va_S A s.heap H locs ∧ lv_has ls 4 [(3, .int (nI v)), (0, .ref aP), (1, .int tim), (2, .int (nI (hi - lo)))]) (fun v H locs ls h => ?_) (fun n v H locs ls h ih => ?_) (hi - lo + 1) 0 _ _ _ ⟨⟨rfl, Nat.zero_le _, fun k h1 h2 => absurd h2 (Nat.not_lt.mpr h1)⟩, hP, hD, hS, lv_sub hl [0, 2, 3, 1] rfl⟩
  · obtain ⟨⟨h1, h2, -⟩, -⟩ := h
    omega
  obtain ⟨⟨hj1, hj2, hj3⟩, hP, hD, hS, hl⟩ := h
  have hok2 := hok.drop (Nat.le_add_right lo v) (show lo + v ≤ hi by omega)
  have hgap2 := hok2.gap (Nat.le_refl _) hok2.2.1 (Nat.le_refl hi)
  have hcap2 := hok2.2.2.1
  have hP : va_P (dC, dI) vwCl [(aT, .inl (cT, R, .inl Tf)), (aP, .inr (1, [.ref aR, .ref aX, .int (nI ts), .ref aO, .int (nI os), .int (nI uw), .int fr, .int to, .int (nI (pa - (lo + v))), .int (nI co), .int (nI dr), .int (nI de)])), (aR, .inr (0, [.int (nI R), .ref aB, .ref aS, .ref aT, .int (nI ((lo + v) % R)), .int (nI (hi - (lo + v))), .int (nI (off hi % R)), .int (nI (off hi - off (lo + v)))])), (aS, .inl (cS, R, .inl Sf))] H := hP
  have hD : va_D A [(aT, .inl (cT, R, .inl Tf)), (aP, .inr (1, [.ref aR, .ref aX, .int (nI ts), .ref aO, .int (nI os), .int (nI uw), .int fr, .int to, .int (nI (pa - (lo + v))), .int (nI co), .int (nI dr), .int (nI de)])), (aR, .inr (0, [.int (nI R), .ref aB, .ref aS, .ref aT, .int (nI ((lo + v) % R)), .int (nI (hi - (lo + v))), .int (nI (off hi % R)), .int (nI (off hi - off (lo + v)))])), (aS, .inl (cS, R, .inl Sf))] := hD
  have hl : lv_has ls 4 [(3, .int (nI v)), (0, .ref aP), (1, .int tim), (2, .int (nI (hi - lo)))] := hl
  refine lv_iload_n hx hb dX1_delete_10 rfl (lv_at hl 0 rfl) ?_
  refine lv_iload_n hx hb dX1_delete_11 rfl (lv_at hl 3 rfl) ?_
  refine zz_icmp_ge (a := v) (b := hi - lo) (tgt := 37) hx hb dX1_delete_12 (by decide) (by omega) (by omega) (fun c12 => ?_) (fun c12 => ?_)
  · refine lv_aload_n hx hb dX1_delete_37 rfl (lv_at hl 1 rfl) ?_
    refine lv_dup hx hb dX1_delete_38 rfl ?_
    refine va_get (D := (dC, dI)) (ci := 1) (v := .int (nI de)) (C := RX1) (T := TX1) (N := 12) hx hb hts hi_P hown hK hP 1 rfl rfl 11 (by decide) (hts (.fieldLink RX1 65 "PacketStore" "deleted" "I") (by decide +kernel)) (fun _ h9 => h9) rfl dX1_delete_39 ?_
    refine lv_iload_n hx hb dX1_delete_42 rfl (lv_at hl 0 rfl) ?_
    refine lv_iadd hx hb dX1_delete_43 ?_
    refine zz_as (nI (de + v)) (nI_add _ _) ?_
    refine zz_as (nI (de + (lo + v - lo))) (congrArg nI (by omega)) ?_
    refine va_put (D := (dC, dI)) (ci := 1) (v := .int (nI (de + (lo + v - lo)))) (ty := .int) (C := RX1) (T := TX1) (N := 12) hx hb hts hi_P tyX1 tyX1_ok nmX1 hown hK hP hD hS 1 rfl rfl 11 (by decide) (hts (.fieldLink RX1 65 "PacketStore" "deleted" "I") (by decide +kernel)) (fun _ h9 => h9) rfl (by decide +kernel) rfl rfl (Nat.le_of_ble_eq_true rfl) dX1_delete_44 (fun H locs hP hD hS => ?_)
    have hP : va_P (dC, dI) vwCl [(aT, .inl (cT, R, .inl Tf)), (aP, .inr (1, [.ref aR, .ref aX, .int (nI ts), .ref aO, .int (nI os), .int (nI uw), .int fr, .int to, .int (nI (pa - (lo + v))), .int (nI co), .int (nI dr), .int (nI (de + (lo + v - lo)))])), (aR, .inr (0, [.int (nI R), .ref aB, .ref aS, .ref aT, .int (nI ((lo + v) % R)), .int (nI (hi - (lo + v))), .int (nI (off hi % R)), .int (nI (off hi - off (lo + v)))])), (aS, .inl (cS, R, .inl Sf))] H := hP
    have hD : va_D A [(aT, .inl (cT, R, .inl Tf)), (aP, .inr (1, [.ref aR, .ref aX, .int (nI ts), .ref aO, .int (nI os), .int (nI uw), .int fr, .int to, .int (nI (pa - (lo + v))), .int (nI co), .int (nI dr), .int (nI (de + (lo + v - lo)))])), (aR, .inr (0, [.int (nI R), .ref aB, .ref aS, .ref aT, .int (nI ((lo + v) % R)), .int (nI (hi - (lo + v))), .int (nI (off hi % R)), .int (nI (off hi - off (lo + v)))])), (aS, .inl (cS, R, .inl Sf))] := hD
    refine lv_iload_n hx hb dX1_delete_47 rfl (lv_at hl 0 rfl) ?_
    have hP := hP.sub (ws' := [(aP, .inr (1, [.ref aR, .ref aX, .int (nI ts), .ref aO, .int (nI os), .int (nI uw), .int fr, .int to, .int (nI (pa - (lo + v))), .int (nI co), .int (nI dr), .int (nI (de + (lo + v - lo)))])), (aR, .inr (0, [.int (nI R), .ref aB, .ref aS, .ref aT, .int (nI ((lo + v) % R)), .int (nI (hi - (lo + v))), .int (nI (off hi % R)), .int (nI (off hi - off (lo + v)))])), (aS, .inl (cS, R, .inl Sf)), (aT, .inl (cT, R, .inl Tf))]) [1, 2, 3, 0] rfl
    have hD := hD.sub (ws' := [(aP, .inr (1, [.ref aR, .ref aX, .int (nI ts), .ref aO, .int (nI os), .int (nI uw), .int fr, .int to, .int (nI (pa - (lo + v))), .int (nI co), .int (nI dr), .int (nI (de + (lo + v - lo)))])), (aR, .inr (0, [.int (nI R), .ref aB, .ref aS, .ref aT, .int (nI ((lo + v) % R)), .int (nI (hi - (lo + v))), .int (nI (off hi % R)), .int (nI (off hi - off (lo + v)))])), (aS, .inl (cS, R, .inl Sf)), (aT, .inl (cT, R, .inl Tf))]) [1, 2, 3, 0] (by decide) rfl
    exact W.iret (v := (nI v)) hx hb hr (fun t ht hW => ⟨⟨_, lo + v, rfl, ⟨congrArg nI (by omega), by omega, by omega, hj3, fun h => absurd h (by omega)⟩, by rw [ht]; exact hP, va_K.moved hW.alike hK, hD⟩, hS.F ht⟩) hS.2.2 dX1_delete_48
  · refine lv_aload_n hx hb dX1_delete_15 rfl (lv_at hl 1 rfl) ?_
    refine va_get (D := (dC, dI)) (ci := 1) (v := .ref aR) (C := RX1) (T := TX1) (N := 12) hx hb hts hi_P hown hK hP 1 rfl rfl 0 (by decide) (hts (.fieldLink RX1 23 "PacketStore" "ring" "LPacketStore$Ring;") (by decide +kernel)) (fun _ h9 => h9) rfl dX1_delete_16 ?_
    refine lv_iconst (v := nI 0) hx hb dX1_delete_19 (by decide) ?_
    refine zz_callR (As := [.int (nI 0)]) (rest := []) ⟨hx, hb, hml, hown, hts⟩ (c_R_timeOf l dC dI aR aB aS aT R ((lo + v) % R) (hi - (lo + v)) (off hi % R) (off hi - off (lo + v)) cT Tf 0 (Nat.mod_lt _ (by omega)) (by omega) (by omega)) (cwV 1 hts gX1_delete_X0_timeOf rfl rfl rfl (by decide +kernel) ⟨Nat.le_of_ble_eq_true rfl, Nat.le_of_ble_eq_true rfl⟩) (hP.sub [2, 0] rfl) (hK.sub [1] rfl) 0 rfl rfl rfl rfl hl.1 rfl (Nat.le_of_ble_eq_true rfl) dX1_delete_20 ⟨Nat.zero_le _, Nat.zero_le _⟩ (fun r20 e20 => ?_)
    subst e20
    refine zz_as (tm (lo + v + 0)) (by rw [Nat.mod_add_mod]; exact htm (lo + v + 0) (by omega) (by omega)) ?_
    refine lv_iload_n hx hb dX1_delete_23 rfl (lv_at hl 2 rfl) ?_
    refine lv_icmp_gt (tgt := 37) hx hb dX1_delete_24 (by decide) (fun c24 => ?_) (fun c24 => ?_)
    · refine lv_aload_n hx hb dX1_delete_37 rfl (lv_at hl 1 rfl) ?_
      refine lv_dup hx hb dX1_delete_38 rfl ?_
      refine va_get (D := (dC, dI)) (ci := 1) (v := .int (nI de)) (C := RX1) (T := TX1) (N := 12) hx hb hts hi_P hown hK hP 1 rfl rfl 11 (by decide) (hts (.fieldLink RX1 65 "PacketStore" "deleted" "I") (by decide +kernel)) (fun _ h9 => h9) rfl dX1_delete_39 ?_
      refine lv_iload_n hx hb dX1_delete_42 rfl (lv_at hl 0 rfl) ?_
      refine lv_iadd hx hb dX1_delete_43 ?_
      refine zz_as (nI (de + v)) (nI_add _ _) ?_
      refine zz_as (nI (de + (lo + v - lo))) (congrArg nI (by omega)) ?_
      refine va_put (D := (dC, dI)) (ci := 1) (v := .int (nI (de + (lo + v - lo)))) (ty := .int) (C := RX1) (T := TX1) (N := 12) hx hb hts hi_P tyX1 tyX1_ok nmX1 hown hK hP hD hS 1 rfl rfl 11 (by decide) (hts (.fieldLink RX1 65 "PacketStore" "deleted" "I") (by decide +kernel)) (fun _ h9 => h9) rfl (by decide +kernel) rfl rfl (Nat.le_of_ble_eq_true rfl) dX1_delete_44 (fun H locs hP hD hS => ?_)
      have hP : va_P (dC, dI) vwCl [(aT, .inl (cT, R, .inl Tf)), (aP, .inr (1, [.ref aR, .ref aX, .int (nI ts), .ref aO, .int (nI os), .int (nI uw), .int fr, .int to, .int (nI (pa - (lo + v))), .int (nI co), .int (nI dr), .int (nI (de + (lo + v - lo)))])), (aR, .inr (0, [.int (nI R), .ref aB, .ref aS, .ref aT, .int (nI ((lo + v) % R)), .int (nI (hi - (lo + v))), .int (nI (off hi % R)), .int (nI (off hi - off (lo + v)))])), (aS, .inl (cS, R, .inl Sf))] H := hP
      have hD : va_D A [(aT, .inl (cT, R, .inl Tf)), (aP, .inr (1, [.ref aR, .ref aX, .int (nI ts), .ref aO, .int (nI os), .int (nI uw), .int fr, .int to, .int (nI (pa - (lo + v))), .int (nI co), .int (nI dr), .int (nI (de + (lo + v - lo)))])), (aR, .inr (0, [.int (nI R), .ref aB, .ref aS, .ref aT, .int (nI ((lo + v) % R)), .int (nI (hi - (lo + v))), .int (nI (off hi % R)), .int (nI (off hi - off (lo + v)))])), (aS, .inl (cS, R, .inl Sf))] := hD
      refine lv_iload_n hx hb dX1_delete_47 rfl (lv_at hl 0 rfl) ?_
      have hP := hP.sub (ws' := [(aP, .inr (1, [.ref aR, .ref aX, .int (nI ts), .ref aO, .int (nI os), .int (nI uw), .int fr, .int to, .int (nI (pa - (lo + v))), .int (nI co), .int (nI dr), .int (nI (de + (lo + v - lo)))])), (aR, .inr (0, [.int (nI R), .ref aB, .ref aS, .ref aT, .int (nI ((lo + v) % R)), .int (nI (hi - (lo + v))), .int (nI (off hi % R)), .int (nI (off hi - off (lo + v)))])), (aS, .inl (cS, R, .inl Sf)), (aT, .inl (cT, R, .inl Tf))]) [1, 2, 3, 0] rfl
      have hD := hD.sub (ws' := [(aP, .inr (1, [.ref aR, .ref aX, .int (nI ts), .ref aO, .int (nI os), .int (nI uw), .int fr, .int to, .int (nI (pa - (lo + v))), .int (nI co), .int (nI dr), .int (nI (de + (lo + v - lo)))])), (aR, .inr (0, [.int (nI R), .ref aB, .ref aS, .ref aT, .int (nI ((lo + v) % R)), .int (nI (hi - (lo + v))), .int (nI (off hi % R)), .int (nI (off hi - off (lo + v)))])), (aS, .inl (cS, R, .inl Sf)), (aT, .inl (cT, R, .inl Tf))]) [1, 2, 3, 0] (by decide) rfl
      exact W.iret (v := (nI v)) hx hb hr (fun t ht hW => ⟨⟨_, lo + v, rfl, ⟨congrArg nI (by omega), by omega, by omega, hj3, fun _ => c24⟩, by rw [ht]; exact hP, va_K.moved hW.alike hK, hD⟩, hS.F ht⟩) hS.2.2 dX1_delete_48
    · refine lv_aload_n hx hb dX1_delete_27 rfl (lv_at hl 1 rfl) ?_
      refine zz_callMv (As := []) (rest := []) (wr := [(aT, .inl (cT, R, .inl Tf))]) ⟨hx, hb, hml, hown, hts⟩ (c_P_dropOldest l dC dI aP aR aB aS aT aX aO R (lo + v) hi off ts os uw fr to pa co dr de cS Sf hok2 (fun i a b => hst i (by omega) b) (by omega) (by omega) _) (cwV 0 hts gX1_delete_X1_dropOldest rfl rfl rfl (by decide +kernel) ⟨Nat.le_of_ble_eq_true rfl, Nat.le_of_ble_eq_true rfl⟩) hP hD hK hS hA [1, 2, 3] [0] [0] rfl rfl rfl (by decide) (by decide) (by decide) rfl 0 rfl rfl rfl rfl hl.1 rfl (Nat.le_of_ble_eq_true rfl) dX1_delete_28 ⟨Nat.zero_le _, Nat.zero_le _⟩ (fun u28 H locs e28 hP hD hS => ?_)
      have hP : va_P (dC, dI) vwCl [(aT, .inl (cT, R, .inl Tf)), (aP, .inr (1, [.ref aR, .ref aX, .int (nI ts), .ref aO, .int (nI os), .int (nI uw), .int fr, .int to, .int (nI (pa - (lo + v + 1))), .int (nI co), .int (nI dr), .int (nI de)])), (aR, .inr (0, [.int (nI R), .ref aB, .ref aS, .ref aT, .int (nI ((lo + v + 1) % R)), .int (nI (hi - (lo + v + 1))), .int (nI (off hi % R)), .int (nI (off hi - off (lo + v + 1)))])), (aS, .inl (cS, R, .inl Sf))] H := hP
      have hD : va_D A [(aT, .inl (cT, R, .inl Tf)), (aP, .inr (1, [.ref aR, .ref aX, .int (nI ts), .ref aO, .int (nI os), .int (nI uw), .int fr, .int to, .int (nI (pa - (lo + v + 1))), .int (nI co), .int (nI dr), .int (nI de)])), (aR, .inr (0, [.int (nI R), .ref aB, .ref aS, .ref aT, .int (nI ((lo + v + 1) % R)), .int (nI (hi - (lo + v + 1))), .int (nI (off hi % R)), .int (nI (off hi - off (lo + v + 1)))])), (aS, .inl (cS, R, .inl Sf))] := hD
      refine lv_iinc (v := nI (v + 1)) (lv' := [(3, .int (nI (v + 1))), (0, .ref aP), (1, .int tim), (2, .int (nI (hi - lo)))]) hx hb dX1_delete_31 hl (k := 0) rfl (show nI v + 1 = nI (v + 1) from nI_1 _) (by decide) rfl (fun ls hl => ?_)
      refine lv_goto (tgt := 10) hx hb dX1_delete_34 (by decide) ?_
      exact ih (v + 1) _ _ _ ⟨⟨by omega, by omega, fun k h1 h2 => (Nat.lt_or_ge k (lo + v)).elim (fun q => hj3 k h1 q) (fun q => by rw [show k = lo + v by omega]; exact c24)⟩, hP, hD, hS, lv_sub hl [0, 1, 2, 3] rfl⟩
set_option maxHeartbeats 4000000 in
set_option maxRecDepth 100000 in
/-- begin(from, to) -/
theorem c_P_begin (l : Launch) (dC : Nat → ClassId) (dI : Nat → Nat → Nat) (aP aR aX aO ts os uw : Nat) (fr to : Int32) (pw co dr de : Nat) (f2 t2 : Int32) (huw : uw ≤ 1) (hz : Nat) : Met l yX1_begin wsX1_begin ({ frames := 0, cells := 0, slots := 0, locals := 0 }) (va_Pc [.ref aP, .int f2, .int t2] (fun U => U.heap.size = hz ∧ va_P (dC, dI) vwCl [(aP, .inr (1, [.ref aR, .ref aX, .int (nI ts), .ref aO, .int (nI os), .int (nI uw), .int fr, .int to, .int (nI pw), .int (nI co), .int (nI dr), .int (nI de)]))] U.heap ∧ va_K (dC, dI) vwCl [] U ∧ va_D (fun _ => True) [(aP, .inr (1, [.ref aR, .ref aX, .int (nI ts), .ref aO, .int (nI os), .int (nI uw), .int fr, .int to, .int (nI pw), .int (nI co), .int (nI dr), .int (nI de)]))])) (va_Qi (fun (r : Int32) (u : Nat × Int32 × Int32 × Nat) => (uw ≠ 0 ∧ r = nI 0 ∧ u = (uw, fr, to, pw)) ∨ (uw = 0 ∧ r = nI 1 ∧ u = (1, f2, t2, 0))) (fun u t => va_P (dC, dI) vwCl [(aP, .inr (1, [.ref aR, .ref aX, .int (nI ts), .ref aO, .int (nI os), .int (nI u.1), .int u.2.1, .int u.2.2.1, .int (nI u.2.2.2), .int (nI co), .int (nI dr), .int (nI de)]))] t.heap ∧ va_K (dC, dI) vwCl [] t ∧ va_D (va_A [(aP, .inr (1, [.ref aR, .ref aX, .int (nI ts), .ref aO, .int (nI os), .int (nI uw), .int fr, .int to, .int (nI pw), .int (nI co), .int (nI dr), .int (nI de)]))] hz) [(aP, .inr (1, [.ref aR, .ref aX, .int (nI ts), .ref aO, .int (nI os), .int (nI u.1), .int u.2.1, .int u.2.2.1, .int (nI u.2.2.2), .int (nI co), .int (nI dr), .int (nI de)]))]) (va_A [(aP, .inr (1, [.ref aR, .ref aX, .int (nI ts), .ref aO, .int (nI os), .int (nI uw), .int fr, .int to, .int (nI pw), .int (nI co), .int (nI dr), .int (nI de)]))] hz)) 0 0 (va_A [(aP, .inr (1, [.ref aR, .ref aX, .int (nI ts), .ref aO, .int (nI os), .int (nI uw), .int fr, .int to, .int (nI pw), .int (nI co), .int (nI dr), .int (nI de)]))] hz) := by
  refine Met.ofW (cc := cX1_begin) (maxL := 3) (ret := (some .boolean)) (by decide) rfl ?_
  intro p e s m args below meth c s₁ B hml hv
  obtain ⟨rfl, hsz, hP, hK, hD0⟩ := hv
  have hx := B.exec
  have hb := B.bytes
  have hr := B.returns
  have hts := atoms_spec (ws := wsX1_begin) B.pre
  have hown : s.vm.findClass RX1 = some m.cls := findClass_of_methodNamed B.named
  have hlocks := B.notSynchronized
  have hi_P : ∀ w ∈ u_ws RX1 TX1 12, w ∈ wsX1_begin := by decide +kernel
  subst hsz
  have hD := hD0.self (sz := s.heap.size)
  generalize hAe : va_A [(aP, .inr (1, [.ref aR, .ref aX, .int (nI ts), .ref aO, .int (nI os), .int (nI uw), .int fr, .int to, .int (nI pw), .int (nI co), .int (nI dr), .int (nI de)]))] s.heap.size = A at hD ⊢
  have hA : ∀ q : Nat, s.heap.size ≤ q → A q := fun q h => by rw [← hAe]; exact Or.inr h
  have hS : va_S A s.heap s.heap [] := va_S.rf
  have hP : va_P (dC, dI) vwCl [(aP, .inr (1, [.ref aR, .ref aX, .int (nI ts), .ref aO, .int (nI os), .int (nI uw), .int fr, .int to, .int (nI pw), .int (nI co), .int (nI dr), .int (nI de)]))] s.heap := hP
  have hl := lv_entry ([.ref aP, .int f2, .int t2]) (n := 3) (Nat.le_of_ble_eq_true rfl)
  rw [lg_entry_eq]
  generalize (lg_sl ([.ref aP, .int f2, .int t2]) ++ List.replicate (3 - (lg_sl ([.ref aP, .int f2, .int t2])).length) Slot.unset).toArray = ls at hl ⊢
  have hl : lv_has ls 3 [(0, .ref aP), (1, .int f2), (2, .int t2)] := hl
  refine lv_aload_n hx hb dX1_begin_0 rfl (lv_at hl 0 rfl) ?_
  refine va_get (D := (dC, dI)) (ci := 1) (v := .int (nI uw)) (C := RX1) (T := TX1) (N := 12) hx hb hts hi_P hown hK hP 0 rfl rfl 5 (by decide) (hts (.fieldLink RX1 68 "PacketStore" "underWay" "Z") (by decide +kernel)) (fun _ h9 => h9) rfl dX1_begin_1 ?_
  refine zz_if_eq (a := uw) (tgt := 9) hx hb dX1_begin_4 (by decide) (by omega) (fun c4 => ?_) (fun c4 => ?_)
  · refine lv_aload_n hx hb dX1_begin_9 rfl (lv_at hl 0 rfl) ?_
    refine lv_iconst (v := nI 1) hx hb dX1_begin_10 (by decide) ?_
    refine va_put (D := (dC, dI)) (ci := 1) (v := .int (nI 1)) (ty := .boolean) (C := RX1) (T := TX1) (N := 12) hx hb hts hi_P tyX1 tyX1_ok nmX1 hown hK hP hD hS 0 rfl rfl 5 (by decide) (hts (.fieldLink RX1 68 "PacketStore" "underWay" "Z") (by decide +kernel)) (fun _ h9 => h9) rfl (by decide +kernel) rfl rfl (Nat.le_of_ble_eq_true rfl) dX1_begin_11 (fun H locs hP hD hS => ?_)
    have hP : va_P (dC, dI) vwCl [(aP, .inr (1, [.ref aR, .ref aX, .int (nI ts), .ref aO, .int (nI os), .int (nI 1), .int fr, .int to, .int (nI pw), .int (nI co), .int (nI dr), .int (nI de)]))] H := hP
    have hD : va_D A [(aP, .inr (1, [.ref aR, .ref aX, .int (nI ts), .ref aO, .int (nI os), .int (nI 1), .int fr, .int to, .int (nI pw), .int (nI co), .int (nI dr), .int (nI de)]))] := hD
    refine lv_aload_n hx hb dX1_begin_14 rfl (lv_at hl 0 rfl) ?_
    refine lv_iload_n hx hb dX1_begin_15 rfl (lv_at hl 1 rfl) ?_
    refine va_put (D := (dC, dI)) (ci := 1) (v := .int f2) (ty := .int) (C := RX1) (T := TX1) (N := 12) hx hb hts hi_P tyX1 tyX1_ok nmX1 hown hK hP hD hS 0 rfl rfl 6 (by decide) (hts (.fieldLink RX1 72 "PacketStore" "from" "I") (by decide +kernel)) (fun _ h9 => h9) rfl (by decide +kernel) rfl rfl (Nat.le_of_ble_eq_true rfl) dX1_begin_16 (fun H locs hP hD hS => ?_)
    have hP : va_P (dC, dI) vwCl [(aP, .inr (1, [.ref aR, .ref aX, .int (nI ts), .ref aO, .int (nI os), .int (nI 1), .int f2, .int to, .int (nI pw), .int (nI co), .int (nI dr), .int (nI de)]))] H := hP
    have hD : va_D A [(aP, .inr (1, [.ref aR, .ref aX, .int (nI ts), .ref aO, .int (nI os), .int (nI 1), .int f2, .int to, .int (nI pw), .int (nI co), .int (nI dr), .int (nI de)]))] := hD
    refine lv_aload_n hx hb dX1_begin_19 rfl (lv_at hl 0 rfl) ?_
    refine lv_iload_n hx hb dX1_begin_20 rfl (lv_at hl 2 rfl) ?_
    refine va_put (D := (dC, dI)) (ci := 1) (v := .int t2) (ty := .int) (C := RX1) (T := TX1) (N := 12) hx hb hts hi_P tyX1 tyX1_ok nmX1 hown hK hP hD hS 0 rfl rfl 7 (by decide) (hts (.fieldLink RX1 75 "PacketStore" "to" "I") (by decide +kernel)) (fun _ h9 => h9) rfl (by decide +kernel) rfl rfl (Nat.le_of_ble_eq_true rfl) dX1_begin_21 (fun H locs hP hD hS => ?_)
    have hP : va_P (dC, dI) vwCl [(aP, .inr (1, [.ref aR, .ref aX, .int (nI ts), .ref aO, .int (nI os), .int (nI 1), .int f2, .int t2, .int (nI pw), .int (nI co), .int (nI dr), .int (nI de)]))] H := hP
    have hD : va_D A [(aP, .inr (1, [.ref aR, .ref aX, .int (nI ts), .ref aO, .int (nI os), .int (nI 1), .int f2, .int t2, .int (nI pw), .int (nI co), .int (nI dr), .int (nI de)]))] := hD
    refine lv_aload_n hx hb dX1_begin_24 rfl (lv_at hl 0 rfl) ?_
    refine lv_iconst (v := nI 0) hx hb dX1_begin_25 (by decide) ?_
    refine va_put (D := (dC, dI)) (ci := 1) (v := .int (nI 0)) (ty := .int) (C := RX1) (T := TX1) (N := 12) hx hb hts hi_P tyX1 tyX1_ok nmX1 hown hK hP hD hS 0 rfl rfl 8 (by decide) (hts (.fieldLink RX1 78 "PacketStore" "passed" "I") (by decide +kernel)) (fun _ h9 => h9) rfl (by decide +kernel) rfl rfl (Nat.le_of_ble_eq_true rfl) dX1_begin_26 (fun H locs hP hD hS => ?_)
    have hP : va_P (dC, dI) vwCl [(aP, .inr (1, [.ref aR, .ref aX, .int (nI ts), .ref aO, .int (nI os), .int (nI 1), .int f2, .int t2, .int (nI 0), .int (nI co), .int (nI dr), .int (nI de)]))] H := hP
    have hD : va_D A [(aP, .inr (1, [.ref aR, .ref aX, .int (nI ts), .ref aO, .int (nI os), .int (nI 1), .int f2, .int t2, .int (nI 0), .int (nI co), .int (nI dr), .int (nI de)]))] := hD
    refine lv_iconst (v := nI 1) hx hb dX1_begin_29 (by decide) ?_
    exact W.zret (v := (nI 1)) hx hb hr rfl (fun t ht hW => ⟨⟨_, (1, f2, t2, 0), rfl, Or.inr ⟨c4, rfl, rfl⟩, by rw [ht]; exact hP, va_K.moved hW.alike hK, hD⟩, hS.F ht⟩) hS.2.2 dX1_begin_30
  · refine lv_iconst (v := nI 0) hx hb dX1_begin_7 (by decide) ?_
    exact W.zret (v := (nI 0)) hx hb hr rfl (fun t ht hW => ⟨⟨_, (uw, fr, to, pw), rfl, Or.inl ⟨c4, rfl, rfl⟩, by rw [ht]; exact hP, va_K.moved hW.alike hK, hD⟩, hS.F ht⟩) hS.2.2 dX1_begin_8
set_option maxHeartbeats 4000000 in
set_option maxRecDepth 100000 in
/-- stop() -/
theorem c_P_stop (l : Launch) (dC : Nat → ClassId) (dI : Nat → Nat → Nat) (aP aR aX aO ts os uw : Nat) (fr to : Int32) (pw co dr de : Nat) (huw : uw ≤ 1) (hz : Nat) : Met l yX1_stop wsX1_stop ({ frames := 0, cells := 0, slots := 0, locals := 0 }) (va_Pc [.ref aP] (fun U => U.heap.size = hz ∧ va_P (dC, dI) vwCl [(aP, .inr (1, [.ref aR, .ref aX, .int (nI ts), .ref aO, .int (nI os), .int (nI uw), .int fr, .int to, .int (nI pw), .int (nI co), .int (nI dr), .int (nI de)]))] U.heap ∧ va_K (dC, dI) vwCl [] U ∧ va_D (fun _ => True) [(aP, .inr (1, [.ref aR, .ref aX, .int (nI ts), .ref aO, .int (nI os), .int (nI uw), .int fr, .int to, .int (nI pw), .int (nI co), .int (nI dr), .int (nI de)]))])) (va_Qi (fun (r : Int32) (u : Unit) => r = nI uw) (fun u t => va_P (dC, dI) vwCl [(aP, .inr (1, [.ref aR, .ref aX, .int (nI ts), .ref aO, .int (nI os), .int (nI 0), .int fr, .int to, .int (nI pw), .int (nI co), .int (nI dr), .int (nI de)]))] t.heap ∧ va_K (dC, dI) vwCl [] t ∧ va_D (va_A [(aP, .inr (1, [.ref aR, .ref aX, .int (nI ts), .ref aO, .int (nI os), .int (nI uw), .int fr, .int to, .int (nI pw), .int (nI co), .int (nI dr), .int (nI de)]))] hz) [(aP, .inr (1, [.ref aR, .ref aX, .int (nI ts), .ref aO, .int (nI os), .int (nI 0), .int fr, .int to, .int (nI pw), .int (nI co), .int (nI dr), .int (nI de)]))]) (va_A [(aP, .inr (1, [.ref aR, .ref aX, .int (nI ts), .ref aO, .int (nI os), .int (nI uw), .int fr, .int to, .int (nI pw), .int (nI co), .int (nI dr), .int (nI de)]))] hz)) 0 0 (va_A [(aP, .inr (1, [.ref aR, .ref aX, .int (nI ts), .ref aO, .int (nI os), .int (nI uw), .int fr, .int to, .int (nI pw), .int (nI co), .int (nI dr), .int (nI de)]))] hz) := by
  refine Met.ofW (cc := cX1_stop) (maxL := 2) (ret := (some .boolean)) (by decide) rfl ?_
  intro p e s m args below meth c s₁ B hml hv
  obtain ⟨rfl, hsz, hP, hK, hD0⟩ := hv
  have hx := B.exec
  have hb := B.bytes
  have hr := B.returns
  have hts := atoms_spec (ws := wsX1_stop) B.pre
  have hown : s.vm.findClass RX1 = some m.cls := findClass_of_methodNamed B.named
  have hlocks := B.notSynchronized
  have hi_P : ∀ w ∈ u_ws RX1 TX1 12, w ∈ wsX1_stop := by decide +kernel
  subst hsz
  have hD := hD0.self (sz := s.heap.size)
  generalize hAe : va_A [(aP, .inr (1, [.ref aR, .ref aX, .int (nI ts), .ref aO, .int (nI os), .int (nI uw), .int fr, .int to, .int (nI pw), .int (nI co), .int (nI dr), .int (nI de)]))] s.heap.size = A at hD ⊢
  have hA : ∀ q : Nat, s.heap.size ≤ q → A q := fun q h => by rw [← hAe]; exact Or.inr h
  have hS : va_S A s.heap s.heap [] := va_S.rf
  have hP : va_P (dC, dI) vwCl [(aP, .inr (1, [.ref aR, .ref aX, .int (nI ts), .ref aO, .int (nI os), .int (nI uw), .int fr, .int to, .int (nI pw), .int (nI co), .int (nI dr), .int (nI de)]))] s.heap := hP
  have hl := lv_entry ([.ref aP]) (n := 2) (Nat.le_of_ble_eq_true rfl)
  rw [lg_entry_eq]
  generalize (lg_sl ([.ref aP]) ++ List.replicate (2 - (lg_sl ([.ref aP])).length) Slot.unset).toArray = ls at hl ⊢
  have hl : lv_has ls 2 [(0, .ref aP)] := hl
  refine lv_aload_n hx hb dX1_stop_0 rfl (lv_at hl 0 rfl) ?_
  refine va_get (D := (dC, dI)) (ci := 1) (v := .int (nI uw)) (C := RX1) (T := TX1) (N := 12) hx hb hts hi_P hown hK hP 0 rfl rfl 5 (by decide) (hts (.fieldLink RX1 68 "PacketStore" "underWay" "Z") (by decide +kernel)) (fun _ h9 => h9) rfl dX1_stop_1 ?_
  refine lv_istore_n (lv' := [(1, .int (nI uw)), (0, .ref aP)]) hx hb dX1_stop_4 rfl hl (by decide) rfl (fun ls hl => ?_)
  refine lv_aload_n hx hb dX1_stop_5 rfl (lv_at hl 1 rfl) ?_
  refine lv_iconst (v := nI 0) hx hb dX1_stop_6 (by decide) ?_
  refine va_put (D := (dC, dI)) (ci := 1) (v := .int (nI 0)) (ty := .boolean) (C := RX1) (T := TX1) (N := 12) hx hb hts hi_P tyX1 tyX1_ok nmX1 hown hK hP hD hS 0 rfl rfl 5 (by decide) (hts (.fieldLink RX1 68 "PacketStore" "underWay" "Z") (by decide +kernel)) (fun _ h9 => h9) rfl (by decide +kernel) rfl rfl (Nat.le_of_ble_eq_true rfl) dX1_stop_7 (fun H locs hP hD hS => ?_)
  have hP : va_P (dC, dI) vwCl [(aP, .inr (1, [.ref aR, .ref aX, .int (nI ts), .ref aO, .int (nI os), .int (nI 0), .int fr, .int to, .int (nI pw), .int (nI co), .int (nI dr), .int (nI de)]))] H := hP
  have hD : va_D A [(aP, .inr (1, [.ref aR, .ref aX, .int (nI ts), .ref aO, .int (nI os), .int (nI 0), .int fr, .int to, .int (nI pw), .int (nI co), .int (nI dr), .int (nI de)]))] := hD
  refine lv_iload_n hx hb dX1_stop_10 rfl (lv_at hl 0 rfl) ?_
  exact W.zret (v := (nI uw)) hx hb hr (by rcases (show uw = 0 ∨ uw = 1 by omega) with h | h <;> subst h <;> rfl) (fun t ht hW => ⟨⟨_, (), rfl, rfl, by rw [ht]; exact hP, va_K.moved hW.alike hK, hD⟩, hS.F ht⟩) hS.2.2 dX1_stop_11
set_option maxHeartbeats 4000000 in
set_option maxRecDepth 100000 in
/-- next(most), none under way -/
theorem c_P_next_none (l : Launch) (dC : Nat → ClassId) (dI : Nat → Nat → Nat) (aP aR aX aO ts os uw : Nat) (fr to : Int32) (pw co dr de : Nat) (most : Int32) (h0 : uw = 0) : Met l yX1_next wsX1_next ({ frames := 0, cells := 0, slots := 0, locals := 0 }) (va_Pc [.ref aP, .int most] (fun U => va_P (dC, dI) vwCl [(aP, .inr (1, [.ref aR, .ref aX, .int (nI ts), .ref aO, .int (nI os), .int (nI uw), .int fr, .int to, .int (nI pw), .int (nI co), .int (nI dr), .int (nI de)]))] U.heap ∧ va_K (dC, dI) vwCl [] U)) (vp_Si (fun r => r = (-1))) 0 0 (fun _ => False) := by
  refine Met.ofW (cc := cX1_next) (maxL := 3) (ret := (some .int)) (by decide) rfl ?_
  intro p e s m args below meth c s₁ B hml hv
  obtain ⟨rfl, hP, hK⟩ := hv
  have hx := B.exec
  have hb := B.bytes
  have hr := B.returns
  have hts := atoms_spec (ws := wsX1_next) B.pre
  have hown : s.vm.findClass RX1 = some m.cls := findClass_of_methodNamed B.named
  have hlocks := B.notSynchronized
  have hi_P : ∀ w ∈ u_ws RX1 TX1 12, w ∈ wsX1_next := by decide +kernel
  have hP : va_P (dC, dI) vwCl [(aP, .inr (1, [.ref aR, .ref aX, .int (nI ts), .ref aO, .int (nI os), .int (nI uw), .int fr, .int to, .int (nI pw), .int (nI co), .int (nI dr), .int (nI de)]))] s.heap := hP
  have hl := lv_entry ([.ref aP, .int most]) (n := 3) (Nat.le_of_ble_eq_true rfl)
  rw [lg_entry_eq]
  generalize (lg_sl ([.ref aP, .int most]) ++ List.replicate (3 - (lg_sl ([.ref aP, .int most])).length) Slot.unset).toArray = ls at hl ⊢
  have hl : lv_has ls 3 [(0, .ref aP), (1, .int most)] := hl
  refine lv_aload_n hx hb dX1_next_0 rfl (lv_at hl 0 rfl) ?_
  refine va_get (D := (dC, dI)) (ci := 1) (v := .int (nI uw)) (C := RX1) (T := TX1) (N := 12) hx hb hts hi_P hown hK hP 0 rfl rfl 5 (by decide) (hts (.fieldLink RX1 68 "PacketStore" "underWay" "Z") (by decide +kernel)) (fun _ h9 => h9) rfl dX1_next_1 ?_
  refine zz_if_ne (a := uw) (tgt := 9) hx hb dX1_next_4 (by decide) (by omega) (fun c4 => ?_) (fun c4 => ?_)
  · exact absurd h0 c4
  · refine lv_iconst (v := (-1)) hx hb dX1_next_7 (by decide) ?_
    exact W.iret (v := ((-1))) hx hb hr (fun t ht hW => ⟨_, rfl, rfl, ht⟩) (fun q hq => by cases hq) dX1_next_8
set_option maxHeartbeats 4000000 in
set_option maxRecDepth 100000 in
/-- next(most), a retrieval is under way -/
theorem c_P_next (l : Launch) (dC : Nat → ClassId) (dI : Nat → Nat → Nat) (aP aR aB aS aT aX aO R lo hi : Nat) (off : Nat → Nat) (ts os : Nat) (fr to : Int32) (pa co dr de : Nat) (cB cS cT cO : ClassId) (Bf Sf Tf Of tm bz : Nat → Int32) (most : Int32) (hok : rg_ok R lo hi off) (hrep : rg_rep R lo hi off tm bz Bf Sf Tf) (hpa : pa ≤ hi) (h512 : ∀ i, lo ≤ i → i < hi → off (i + 1) - off i ≤ 512) (hz : Nat) : Met l yX1_next wsX1_next ({ frames := 4, cells := 0, slots := 0, locals := 88 }) (va_Pc [.ref aP, .int most] (fun U => U.heap.size = hz ∧ va_P (dC, dI) vwCl [(aP, .inr (1, [.ref aR, .ref aX, .int (nI ts), .ref aO, .int (nI os), .int (nI 1), .int fr, .int to, .int (nI (pa - lo)), .int (nI co), .int (nI dr), .int (nI de)])), (aR, .inr (0, [.int (nI R), .ref aB, .ref aS, .ref aT, .int (nI (lo % R)), .int (nI (hi - lo)), .int (nI (off hi % R)), .int (nI (off hi - off lo))])), (aB, .inl (cB, R, .inl Bf)), (aS, .inl (cS, R, .inl Sf)), (aT, .inl (cT, R, .inl Tf)), (aO, .inl (cO, 512, .inl Of))] U.heap ∧ va_K (dC, dI) vwCl [(cB, .byte), (cS, .int), (cT, .int), (cO, .byte)] U ∧ va_D (fun _ => True) [(aP, .inr (1, [.ref aR, .ref aX, .int (nI ts), .ref aO, .int (nI os), .int (nI 1), .int fr, .int to, .int (nI (pa - lo)), .int (nI co), .int (nI dr), .int (nI de)])), (aR, .inr (0, [.int (nI R), .ref aB, .ref aS, .ref aT, .int (nI (lo % R)), .int (nI (hi - lo)), .int (nI (off hi % R)), .int (nI (off hi - off lo))])), (aB, .inl (cB, R, .inl Bf)), (aS, .inl (cS, R, .inl Sf)), (aT, .inl (cT, R, .inl Tf)), (aO, .inl (cO, 512, .inl Of))])) (va_Qi (fun (r : Int32) (u : Nat × Nat × Nat × (Nat → Int32)) => ∃ w, pa - lo ≤ w ∧ w ≤ hi - lo ∧ (∀ t, pa - lo ≤ t → t < w → ¬ (fr ≤ tm (lo + t) ∧ tm (lo + t) ≤ to)) ∧ ((w = hi - lo ∧ r = (-1) ∧ u = (w, 0, os, Of)) ∨ (w < hi - lo ∧ (fr ≤ tm (lo + w) ∧ tm (lo + w) ≤ to) ∧ ((¬ nI (off (lo + w + 1) - off (lo + w)) ≤ most ∧ r = (-2) ∧ u = (w, 1, os, Of)) ∨ (nI (off (lo + w + 1) - off (lo + w)) ≤ most ∧ r = nI (off (lo + w + 1) - off (lo + w)) ∧ u.1 = w + 1 ∧ u.2.1 = 1 ∧ u.2.2.1 = off (lo + w + 1) - off (lo + w) ∧ ∀ t, t < off (lo + w + 1) - off (lo + w) → u.2.2.2 t = (bz (off (lo + w) + t)).toInt8.toInt32))))) (fun u t => va_P (dC, dI) vwCl [(aP, .inr (1, [.ref aR, .ref aX, .int (nI ts), .ref aO, .int (nI u.2.2.1), .int (nI u.2.1), .int fr, .int to, .int (nI u.1), .int (nI co), .int (nI dr), .int (nI de)])), (aR, .inr (0, [.int (nI R), .ref aB, .ref aS, .ref aT, .int (nI (lo % R)), .int (nI (hi - lo)), .int (nI (off hi % R)), .int (nI (off hi - off lo))])), (aB, .inl (cB, R, .inl Bf)), (aS, .inl (cS, R, .inl Sf)), (aT, .inl (cT, R, .inl Tf)), (aO, .inl (cO, 512, .inl u.2.2.2))] t.heap ∧ va_K (dC, dI) vwCl [(cB, .byte), (cS, .int), (cT, .int), (cO, .byte)] t ∧ va_D (va_A [(aP, .inr (1, [.ref aR, .ref aX, .int (nI ts), .ref aO, .int (nI os), .int (nI 1), .int fr, .int to, .int (nI (pa - lo)), .int (nI co), .int (nI dr), .int (nI de)])), (aR, .inr (0, [.int (nI R), .ref aB, .ref aS, .ref aT, .int (nI (lo % R)), .int (nI (hi - lo)), .int (nI (off hi % R)), .int (nI (off hi - off lo))])), (aB, .inl (cB, R, .inl Bf)), (aS, .inl (cS, R, .inl Sf)), (aT, .inl (cT, R, .inl Tf)), (aO, .inl (cO, 512, .inl Of))] hz) [(aP, .inr (1, [.ref aR, .ref aX, .int (nI ts), .ref aO, .int (nI u.2.2.1), .int (nI u.2.1), .int fr, .int to, .int (nI u.1), .int (nI co), .int (nI dr), .int (nI de)])), (aR, .inr (0, [.int (nI R), .ref aB, .ref aS, .ref aT, .int (nI (lo % R)), .int (nI (hi - lo)), .int (nI (off hi % R)), .int (nI (off hi - off lo))])), (aB, .inl (cB, R, .inl Bf)), (aS, .inl (cS, R, .inl Sf)), (aT, .inl (cT, R, .inl Tf)), (aO, .inl (cO, 512, .inl u.2.2.2))]) (va_A [(aP, .inr (1, [.ref aR, .ref aX, .int (nI ts), .ref aO, .int (nI os), .int (nI 1), .int fr, .int to, .int (nI (pa - lo)), .int (nI co), .int (nI dr), .int (nI de)])), (aR, .inr (0, [.int (nI R), .ref aB, .ref aS, .ref aT, .int (nI (lo % R)), .int (nI (hi - lo)), .int (nI (off hi % R)), .int (nI (off hi - off lo))])), (aB, .inl (cB, R, .inl Bf)), (aS, .inl (cS, R, .inl Sf)), (aT, .inl (cT, R, .inl Tf)), (aO, .inl (cO, 512, .inl Of))] hz)) 0 0 (va_A [(aP, .inr (1, [.ref aR, .ref aX, .int (nI ts), .ref aO, .int (nI os), .int (nI 1), .int fr, .int to, .int (nI (pa - lo)), .int (nI co), .int (nI dr), .int (nI de)])), (aR, .inr (0, [.int (nI R), .ref aB, .ref aS, .ref aT, .int (nI (lo % R)), .int (nI (hi - lo)), .int (nI (off hi % R)), .int (nI (off hi - off lo))])), (aB, .inl (cB, R, .inl Bf)), (aS, .inl (cS, R, .inl Sf)), (aT, .inl (cT, R, .inl Tf)), (aO, .inl (cO, 512, .inl Of))] hz) := by
  refine Met.ofW (cc := cX1_next) (maxL := 3) (ret := (some .int)) (by decide) rfl ?_
  intro p e s m args below meth c s₁ B hml hv
  obtain ⟨rfl, hsz, hP, hK, hD0⟩ := hv
  have hx := B.exec
  have hb := B.bytes
  have hr := B.returns
  have hts := atoms_spec (ws := wsX1_next) B.pre
  have hown : s.vm.findClass RX1 = some m.cls := findClass_of_methodNamed B.named
  have hlocks := B.notSynchronized
  have hi_P : ∀ w ∈ u_ws RX1 TX1 12, w ∈ wsX1_next := by decide +kernel
  subst hsz
  have hD := hD0.self (sz := s.heap.size)
  generalize hAe : va_A [(aP, .inr (1, [.ref aR, .ref aX, .int (nI ts), .ref aO, .int (nI os), .int (nI 1), .int fr, .int to, .int (nI (pa - lo)), .int (nI co), .int (nI dr), .int (nI de)])), (aR, .inr (0, [.int (nI R), .ref aB, .ref aS, .ref aT, .int (nI (lo % R)), .int (nI (hi - lo)), .int (nI (off hi % R)), .int (nI (off hi - off lo))])), (aB, .inl (cB, R, .inl Bf)), (aS, .inl (cS, R, .inl Sf)), (aT, .inl (cT, R, .inl Tf)), (aO, .inl (cO, 512, .inl Of))] s.heap.size = A at hD ⊢
  have hA : ∀ q : Nat, s.heap.size ≤ q → A q := fun q h => by rw [← hAe]; exact Or.inr h
  have hS : va_S A s.heap s.heap [] := va_S.rf
  have hP : va_P (dC, dI) vwCl [(aP, .inr (1, [.ref aR, .ref aX, .int (nI ts), .ref aO, .int (nI os), .int (nI 1), .int fr, .int to, .int (nI (pa - lo)), .int (nI co), .int (nI dr), .int (nI de)])), (aR, .inr (0, [.int (nI R), .ref aB, .ref aS, .ref aT, .int (nI (lo % R)), .int (nI (hi - lo)), .int (nI (off hi % R)), .int (nI (off hi - off lo))])), (aB, .inl (cB, R, .inl Bf)), (aS, .inl (cS, R, .inl Sf)), (aT, .inl (cT, R, .inl Tf)), (aO, .inl (cO, 512, .inl Of))] s.heap := hP
  have hl := lv_entry ([.ref aP, .int most]) (n := 3) (Nat.le_of_ble_eq_true rfl)
  rw [lg_entry_eq]
  generalize (lg_sl ([.ref aP, .int most]) ++ List.replicate (3 - (lg_sl ([.ref aP, .int most])).length) Slot.unset).toArray = ls at hl ⊢
  have hl : lv_has ls 3 [(0, .ref aP), (1, .int most)] := hl
  have hRR := hok.1
  have hll := hok.2.1
  have hcap := hok.2.2.1
  have hgap := hok.gap (Nat.le_refl lo) hll (Nat.le_refl hi)
  refine lv_aload_n hx hb dX1_next_0 rfl (lv_at hl 0 rfl) ?_
  refine va_get (D := (dC, dI)) (ci := 1) (v := .int (nI 1)) (C := RX1) (T := TX1) (N := 12) hx hb hts hi_P hown hK hP 0 rfl rfl 5 (by decide) (hts (.fieldLink RX1 68 "PacketStore" "underWay" "Z") (by decide +kernel)) (fun _ h9 => h9) rfl dX1_next_1 ?_
  refine zz_if_ne (a := 1) (tgt := 9) hx hb dX1_next_4 (by decide) (by decide) (fun c4 => ?_) (fun c4 => ?_)
  · refine lv_aload_n hx hb dX1_next_9 rfl (lv_at hl 0 rfl) ?_
    refine zz_callMv (As := []) (rest := []) (wr := [(aB, .inl (cB, R, .inl Bf)), (aS, .inl (cS, R, .inl Sf)), (aO, .inl (cO, 512, .inl Of))]) ⟨hx, hb, hml, hown, hts⟩ (c_P_passUnwanted l dC dI aP aR aB aS aT aX aO R lo hi off ts os 1 fr to pa co dr de cT Tf tm hok hrep.1 hpa _) (cwV 0 hts gX1_next_X1_passUnwanted rfl rfl rfl (by decide +kernel) ⟨Nat.le_of_ble_eq_true rfl, Nat.le_of_ble_eq_true rfl⟩) hP hD hK hS hA [0, 1, 4] [2, 3, 5] [2] rfl rfl rfl (by decide) (by decide) (by decide) rfl 0 rfl rfl rfl rfl hl.1 rfl (Nat.le_of_ble_eq_true rfl) dX1_next_10 ⟨Nat.zero_le _, Nat.zero_le _⟩ (fun u10 H locs e10 hP hD hS => ?_)
    have hP : va_P (dC, dI) vwCl [(aB, .inl (cB, R, .inl Bf)), (aS, .inl (cS, R, .inl Sf)), (aO, .inl (cO, 512, .inl Of)), (aP, .inr (1, [.ref aR, .ref aX, .int (nI ts), .ref aO, .int (nI os), .int (nI 1), .int fr, .int to, .int (nI u10), .int (nI co), .int (nI dr), .int (nI de)])), (aR, .inr (0, [.int (nI R), .ref aB, .ref aS, .ref aT, .int (nI (lo % R)), .int (nI (hi - lo)), .int (nI (off hi % R)), .int (nI (off hi - off lo))])), (aT, .inl (cT, R, .inl Tf))] H := hP
    have hD : va_D A [(aB, .inl (cB, R, .inl Bf)), (aS, .inl (cS, R, .inl Sf)), (aO, .inl (cO, 512, .inl Of)), (aP, .inr (1, [.ref aR, .ref aX, .int (nI ts), .ref aO, .int (nI os), .int (nI 1), .int fr, .int to, .int (nI u10), .int (nI co), .int (nI dr), .int (nI de)])), (aR, .inr (0, [.int (nI R), .ref aB, .ref aS, .ref aT, .int (nI (lo % R)), .int (nI (hi - lo)), .int (nI (off hi % R)), .int (nI (off hi - off lo))])), (aT, .inl (cT, R, .inl Tf))] := hD
    obtain ⟨q1, q2, q3, q4⟩ := e10
    refine lv_aload_n hx hb dX1_next_13 rfl (lv_at hl 0 rfl) ?_
    refine va_get (D := (dC, dI)) (ci := 1) (v := .int (nI u10)) (C := RX1) (T := TX1) (N := 12) hx hb hts hi_P hown hK hP 3 rfl rfl 8 (by decide) (hts (.fieldLink RX1 78 "PacketStore" "passed" "I") (by decide +kernel)) (fun _ h9 => h9) rfl dX1_next_14 ?_
    refine lv_aload_n hx hb dX1_next_17 rfl (lv_at hl 0 rfl) ?_
    refine va_get (D := (dC, dI)) (ci := 1) (v := .ref aR) (C := RX1) (T := TX1) (N := 12) hx hb hts hi_P hown hK hP 3 rfl rfl 0 (by decide) (hts (.fieldLink RX1 23 "PacketStore" "ring" "LPacketStore$Ring;") (by decide +kernel)) (fun _ h9 => h9) rfl dX1_next_18 ?_
    refine zz_callR (As := []) (rest := [.int (nI u10)]) ⟨hx, hb, hml, hown, hts⟩ (c_R_packets l dC dI aR aB aS aT R (lo % R) (hi - lo) (off hi % R) (off hi - off lo)) (cwV 0 hts gX1_next_X0_packets rfl rfl rfl (by decide +kernel) ⟨Nat.le_of_ble_eq_true rfl, Nat.le_of_ble_eq_true rfl⟩) (hP.sub [4] rfl) (hK.sub [] rfl) 0 rfl rfl rfl rfl hl.1 rfl (Nat.le_of_ble_eq_true rfl) dX1_next_21 ⟨Nat.zero_le _, Nat.zero_le _⟩ (fun r21 e21 => ?_)
    subst e21
    refine zz_icmp_lt (a := u10) (b := hi - lo) (tgt := 34) hx hb dX1_next_24 (by decide) (by omega) (by omega) (fun c24 => ?_) (fun c24 => ?_)
    · refine lv_aload_n hx hb dX1_next_34 rfl (lv_at hl 0 rfl) ?_
      refine va_get (D := (dC, dI)) (ci := 1) (v := .ref aR) (C := RX1) (T := TX1) (N := 12) hx hb hts hi_P hown hK hP 3 rfl rfl 0 (by decide) (hts (.fieldLink RX1 23 "PacketStore" "ring" "LPacketStore$Ring;") (by decide +kernel)) (fun _ h9 => h9) rfl dX1_next_35 ?_
      refine lv_aload_n hx hb dX1_next_38 rfl (lv_at hl 0 rfl) ?_
      refine va_get (D := (dC, dI)) (ci := 1) (v := .int (nI u10)) (C := RX1) (T := TX1) (N := 12) hx hb hts hi_P hown hK hP 3 rfl rfl 8 (by decide) (hts (.fieldLink RX1 78 "PacketStore" "passed" "I") (by decide +kernel)) (fun _ h9 => h9) rfl dX1_next_39 ?_
      refine zz_callR (As := [.int (nI u10)]) (rest := []) ⟨hx, hb, hml, hown, hts⟩ (c_R_sizeOf l dC dI aR aB aS aT R lo hi off (off hi - off lo) cS Sf u10 hok hrep.2.1 (by omega)) (cwV 1 hts gX1_next_X0_sizeOf rfl rfl rfl (by decide +kernel) ⟨Nat.le_of_ble_eq_true rfl, Nat.le_of_ble_eq_true rfl⟩) (hP.sub [4, 1] rfl) (hK.sub [1] rfl) 0 rfl rfl rfl rfl hl.1 rfl (Nat.le_of_ble_eq_true rfl) dX1_next_42 ⟨Nat.zero_le _, Nat.zero_le _⟩ (fun r42 e42 => ?_)
      subst e42
      have hk : lo + u10 < hi := by omega
      have hwant := q4.resolve_left (by omega)
      have hk1 : off (lo + u10) < off (lo + u10 + 1) := hok.2.2.2 (lo + u10) (by omega) hk
      have hk4 := h512 (lo + u10) (by omega) hk
      refine lv_istore_n (lv' := [(2, .int (nI (off (lo + u10 + 1) - off (lo + u10)))), (0, .ref aP), (1, .int most)]) hx hb dX1_next_45 rfl hl (by decide) rfl (fun ls hl => ?_)
      refine lv_iload_n hx hb dX1_next_46 rfl (lv_at hl 0 rfl) ?_
      refine lv_iload_n hx hb dX1_next_47 rfl (lv_at hl 2 rfl) ?_
      refine lv_icmp_le (tgt := 54) hx hb dX1_next_48 (by decide) (fun c48 => ?_) (fun c48 => ?_)
      · refine lv_aload_n hx hb dX1_next_54 rfl (lv_at hl 1 rfl) ?_
        refine va_get (D := (dC, dI)) (ci := 1) (v := .ref aR) (C := RX1) (T := TX1) (N := 12) hx hb hts hi_P hown hK hP 3 rfl rfl 0 (by decide) (hts (.fieldLink RX1 23 "PacketStore" "ring" "LPacketStore$Ring;") (by decide +kernel)) (fun _ h9 => h9) rfl dX1_next_55 ?_
        refine lv_aload_n hx hb dX1_next_58 rfl (lv_at hl 1 rfl) ?_
        refine va_get (D := (dC, dI)) (ci := 1) (v := .int (nI u10)) (C := RX1) (T := TX1) (N := 12) hx hb hts hi_P hown hK hP 3 rfl rfl 8 (by decide) (hts (.fieldLink RX1 78 "PacketStore" "passed" "I") (by decide +kernel)) (fun _ h9 => h9) rfl dX1_next_59 ?_
        refine lv_iload_n hx hb dX1_next_62 rfl (lv_at hl 0 rfl) ?_
        refine lv_aload_n hx hb dX1_next_63 rfl (lv_at hl 1 rfl) ?_
        refine va_get (D := (dC, dI)) (ci := 1) (v := .ref aO) (C := RX1) (T := TX1) (N := 12) hx hb hts hi_P hown hK hP 3 rfl rfl 3 (by decide) (hts (.fieldLink RX1 31 "PacketStore" "output" "[B") (by decide +kernel)) (fun _ h9 => h9) rfl dX1_next_64 ?_
        refine zz_callMv (As := [.int (nI u10), .int (nI (off (lo + u10 + 1) - off (lo + u10))), .ref aO]) (rest := []) (wr := [(aP, .inr (1, [.ref aR, .ref aX, .int (nI ts), .ref aO, .int (nI os), .int (nI 1), .int fr, .int to, .int (nI u10), .int (nI co), .int (nI dr), .int (nI de)])), (aT, .inl (cT, R, .inl Tf))]) ⟨hx, hb, hml, hown, hts⟩ (c_R_copy l dC dI aR aB aS aT R lo hi off (off hi - off lo) cB cS cO Bf Sf bz aO Of u10 (off (lo + u10 + 1) - off (lo + u10)) hok hrep.2.1 hrep.2.2 hk rfl hk4 _) (cwV 3 hts gX1_next_X0_copy rfl rfl rfl (by decide +kernel) ⟨Nat.le_of_ble_eq_true rfl, Nat.le_of_ble_eq_true rfl⟩) hP hD hK hS hA [4, 0, 1, 2] [3, 5] [0, 1, 3] rfl rfl rfl (by decide) (by decide) (by decide) rfl 0 rfl rfl rfl rfl hl.1 rfl (Nat.le_of_ble_eq_true rfl) dX1_next_67 ⟨Nat.zero_le _, Nat.zero_le _⟩ (fun u67 H locs e67 hP hD hS => ?_)
        have hP : va_P (dC, dI) vwCl [(aP, .inr (1, [.ref aR, .ref aX, .int (nI ts), .ref aO, .int (nI os), .int (nI 1), .int fr, .int to, .int (nI u10), .int (nI co), .int (nI dr), .int (nI de)])), (aT, .inl (cT, R, .inl Tf)), (aR, .inr (0, [.int (nI R), .ref aB, .ref aS, .ref aT, .int (nI (lo % R)), .int (nI (hi - lo)), .int (nI (off hi % R)), .int (nI (off hi - off lo))])), (aB, .inl (cB, R, .inl Bf)), (aS, .inl (cS, R, .inl Sf)), (aO, .inl (cO, 512, .inl u67))] H := hP
        have hD : va_D A [(aP, .inr (1, [.ref aR, .ref aX, .int (nI ts), .ref aO, .int (nI os), .int (nI 1), .int fr, .int to, .int (nI u10), .int (nI co), .int (nI dr), .int (nI de)])), (aT, .inl (cT, R, .inl Tf)), (aR, .inr (0, [.int (nI R), .ref aB, .ref aS, .ref aT, .int (nI (lo % R)), .int (nI (hi - lo)), .int (nI (off hi % R)), .int (nI (off hi - off lo))])), (aB, .inl (cB, R, .inl Bf)), (aS, .inl (cS, R, .inl Sf)), (aO, .inl (cO, 512, .inl u67))] := hD
        refine lv_aload_n hx hb dX1_next_70 rfl (lv_at hl 1 rfl) ?_
        refine lv_iload_n hx hb dX1_next_71 rfl (lv_at hl 0 rfl) ?_
        refine va_put (D := (dC, dI)) (ci := 1) (v := .int (nI (off (lo + u10 + 1) - off (lo + u10)))) (ty := .int) (C := RX1) (T := TX1) (N := 12) hx hb hts hi_P tyX1 tyX1_ok nmX1 hown hK hP hD hS 0 rfl rfl 4 (by decide) (hts (.fieldLink RX1 91 "PacketStore" "outputSize" "I") (by decide +kernel)) (fun _ h9 => h9) rfl (by decide +kernel) rfl rfl (Nat.le_of_ble_eq_true rfl) dX1_next_72 (fun H locs hP hD hS => ?_)
        have hP : va_P (dC, dI) vwCl [(aP, .inr (1, [.ref aR, .ref aX, .int (nI ts), .ref aO, .int (nI (off (lo + u10 + 1) - off (lo + u10))), .int (nI 1), .int fr, .int to, .int (nI u10), .int (nI co), .int (nI dr), .int (nI de)])), (aT, .inl (cT, R, .inl Tf)), (aR, .inr (0, [.int (nI R), .ref aB, .ref aS, .ref aT, .int (nI (lo % R)), .int (nI (hi - lo)), .int (nI (off hi % R)), .int (nI (off hi - off lo))])), (aB, .inl (cB, R, .inl Bf)), (aS, .inl (cS, R, .inl Sf)), (aO, .inl (cO, 512, .inl u67))] H := hP
        have hD : va_D A [(aP, .inr (1, [.ref aR, .ref aX, .int (nI ts), .ref aO, .int (nI (off (lo + u10 + 1) - off (lo + u10))), .int (nI 1), .int fr, .int to, .int (nI u10), .int (nI co), .int (nI dr), .int (nI de)])), (aT, .inl (cT, R, .inl Tf)), (aR, .inr (0, [.int (nI R), .ref aB, .ref aS, .ref aT, .int (nI (lo % R)), .int (nI (hi - lo)), .int (nI (off hi % R)), .int (nI (off hi - off lo))])), (aB, .inl (cB, R, .inl Bf)), (aS, .inl (cS, R, .inl Sf)), (aO, .inl (cO, 512, .inl u67))] := hD
        refine lv_aload_n hx hb dX1_next_75 rfl (lv_at hl 1 rfl) ?_
        refine lv_dup hx hb dX1_next_76 rfl ?_
        refine va_get (D := (dC, dI)) (ci := 1) (v := .int (nI u10)) (C := RX1) (T := TX1) (N := 12) hx hb hts hi_P hown hK hP 0 rfl rfl 8 (by decide) (hts (.fieldLink RX1 78 "PacketStore" "passed" "I") (by decide +kernel)) (fun _ h9 => h9) rfl dX1_next_77 ?_
        refine lv_iconst (v := nI 1) hx hb dX1_next_80 (by decide) ?_
        refine lv_iadd hx hb dX1_next_81 ?_
        refine zz_as (nI (u10 + 1)) (nI_add _ _) ?_
        refine va_put (D := (dC, dI)) (ci := 1) (v := .int (nI (u10 + 1))) (ty := .int) (C := RX1) (T := TX1) (N := 12) hx hb hts hi_P tyX1 tyX1_ok nmX1 hown hK hP hD hS 0 rfl rfl 8 (by decide) (hts (.fieldLink RX1 78 "PacketStore" "passed" "I") (by decide +kernel)) (fun _ h9 => h9) rfl (by decide +kernel) rfl rfl (Nat.le_of_ble_eq_true rfl) dX1_next_82 (fun H locs hP hD hS => ?_)
        have hP : va_P (dC, dI) vwCl [(aP, .inr (1, [.ref aR, .ref aX, .int (nI ts), .ref aO, .int (nI (off (lo + u10 + 1) - off (lo + u10))), .int (nI 1), .int fr, .int to, .int (nI (u10 + 1)), .int (nI co), .int (nI dr), .int (nI de)])), (aT, .inl (cT, R, .inl Tf)), (aR, .inr (0, [.int (nI R), .ref aB, .ref aS, .ref aT, .int (nI (lo % R)), .int (nI (hi - lo)), .int (nI (off hi % R)), .int (nI (off hi - off lo))])), (aB, .inl (cB, R, .inl Bf)), (aS, .inl (cS, R, .inl Sf)), (aO, .inl (cO, 512, .inl u67))] H := hP
        have hD : va_D A [(aP, .inr (1, [.ref aR, .ref aX, .int (nI ts), .ref aO, .int (nI (off (lo + u10 + 1) - off (lo + u10))), .int (nI 1), .int fr, .int to, .int (nI (u10 + 1)), .int (nI co), .int (nI dr), .int (nI de)])), (aT, .inl (cT, R, .inl Tf)), (aR, .inr (0, [.int (nI R), .ref aB, .ref aS, .ref aT, .int (nI (lo % R)), .int (nI (hi - lo)), .int (nI (off hi % R)), .int (nI (off hi - off lo))])), (aB, .inl (cB, R, .inl Bf)), (aS, .inl (cS, R, .inl Sf)), (aO, .inl (cO, 512, .inl u67))] := hD
        refine lv_iload_n hx hb dX1_next_85 rfl (lv_at hl 0 rfl) ?_
        have hP := hP.sub (ws' := [(aP, .inr (1, [.ref aR, .ref aX, .int (nI ts), .ref aO, .int (nI (off (lo + u10 + 1) - off (lo + u10))), .int (nI 1), .int fr, .int to, .int (nI (u10 + 1)), .int (nI co), .int (nI dr), .int (nI de)])), (aR, .inr (0, [.int (nI R), .ref aB, .ref aS, .ref aT, .int (nI (lo % R)), .int (nI (hi - lo)), .int (nI (off hi % R)), .int (nI (off hi - off lo))])), (aB, .inl (cB, R, .inl Bf)), (aS, .inl (cS, R, .inl Sf)), (aT, .inl (cT, R, .inl Tf)), (aO, .inl (cO, 512, .inl u67))]) [0, 2, 3, 4, 1, 5] rfl
        have hD := hD.sub (ws' := [(aP, .inr (1, [.ref aR, .ref aX, .int (nI ts), .ref aO, .int (nI (off (lo + u10 + 1) - off (lo + u10))), .int (nI 1), .int fr, .int to, .int (nI (u10 + 1)), .int (nI co), .int (nI dr), .int (nI de)])), (aR, .inr (0, [.int (nI R), .ref aB, .ref aS, .ref aT, .int (nI (lo % R)), .int (nI (hi - lo)), .int (nI (off hi % R)), .int (nI (off hi - off lo))])), (aB, .inl (cB, R, .inl Bf)), (aS, .inl (cS, R, .inl Sf)), (aT, .inl (cT, R, .inl Tf)), (aO, .inl (cO, 512, .inl u67))]) [0, 2, 3, 4, 1, 5] (by decide) rfl
        exact W.iret (v := (nI (off (lo + u10 + 1) - off (lo + u10)))) hx hb hr (fun t ht hW => ⟨⟨_, (u10 + 1, 1, off (lo + u10 + 1) - off (lo + u10), u67), rfl, ⟨u10, q1, q2, q3, Or.inr ⟨c24, hwant.2, Or.inr ⟨c48, rfl, rfl, rfl, rfl, e67⟩⟩⟩, by rw [ht]; exact hP, va_K.moved hW.alike hK, hD⟩, hS.F ht⟩) hS.2.2 dX1_next_86
      · refine lv_bipush (v := (-2)) hx hb dX1_next_51 (by decide) ?_
        have hP := hP.sub (ws' := [(aP, .inr (1, [.ref aR, .ref aX, .int (nI ts), .ref aO, .int (nI os), .int (nI 1), .int fr, .int to, .int (nI u10), .int (nI co), .int (nI dr), .int (nI de)])), (aR, .inr (0, [.int (nI R), .ref aB, .ref aS, .ref aT, .int (nI (lo % R)), .int (nI (hi - lo)), .int (nI (off hi % R)), .int (nI (off hi - off lo))])), (aB, .inl (cB, R, .inl Bf)), (aS, .inl (cS, R, .inl Sf)), (aT, .inl (cT, R, .inl Tf)), (aO, .inl (cO, 512, .inl Of))]) [3, 4, 0, 1, 5, 2] rfl
        have hD := hD.sub (ws' := [(aP, .inr (1, [.ref aR, .ref aX, .int (nI ts), .ref aO, .int (nI os), .int (nI 1), .int fr, .int to, .int (nI u10), .int (nI co), .int (nI dr), .int (nI de)])), (aR, .inr (0, [.int (nI R), .ref aB, .ref aS, .ref aT, .int (nI (lo % R)), .int (nI (hi - lo)), .int (nI (off hi % R)), .int (nI (off hi - off lo))])), (aB, .inl (cB, R, .inl Bf)), (aS, .inl (cS, R, .inl Sf)), (aT, .inl (cT, R, .inl Tf)), (aO, .inl (cO, 512, .inl Of))]) [3, 4, 0, 1, 5, 2] (by decide) rfl
        exact W.iret (v := ((-2))) hx hb hr (fun t ht hW => ⟨⟨_, (u10, 1, os, Of), rfl, ⟨u10, q1, q2, q3, Or.inr ⟨c24, hwant.2, Or.inl ⟨c48, rfl, rfl⟩⟩⟩, by rw [ht]; exact hP, va_K.moved hW.alike hK, hD⟩, hS.F ht⟩) hS.2.2 dX1_next_53
    · refine lv_aload_n hx hb dX1_next_27 rfl (lv_at hl 0 rfl) ?_
      refine lv_iconst (v := nI 0) hx hb dX1_next_28 (by decide) ?_
      refine va_put (D := (dC, dI)) (ci := 1) (v := .int (nI 0)) (ty := .boolean) (C := RX1) (T := TX1) (N := 12) hx hb hts hi_P tyX1 tyX1_ok nmX1 hown hK hP hD hS 3 rfl rfl 5 (by decide) (hts (.fieldLink RX1 68 "PacketStore" "underWay" "Z") (by decide +kernel)) (fun _ h9 => h9) rfl (by decide +kernel) rfl rfl (Nat.le_of_ble_eq_true rfl) dX1_next_29 (fun H locs hP hD hS => ?_)
      have hP : va_P (dC, dI) vwCl [(aB, .inl (cB, R, .inl Bf)), (aS, .inl (cS, R, .inl Sf)), (aO, .inl (cO, 512, .inl Of)), (aP, .inr (1, [.ref aR, .ref aX, .int (nI ts), .ref aO, .int (nI os), .int (nI 0), .int fr, .int to, .int (nI u10), .int (nI co), .int (nI dr), .int (nI de)])), (aR, .inr (0, [.int (nI R), .ref aB, .ref aS, .ref aT, .int (nI (lo % R)), .int (nI (hi - lo)), .int (nI (off hi % R)), .int (nI (off hi - off lo))])), (aT, .inl (cT, R, .inl Tf))] H := hP
      have hD : va_D A [(aB, .inl (cB, R, .inl Bf)), (aS, .inl (cS, R, .inl Sf)), (aO, .inl (cO, 512, .inl Of)), (aP, .inr (1, [.ref aR, .ref aX, .int (nI ts), .ref aO, .int (nI os), .int (nI 0), .int fr, .int to, .int (nI u10), .int (nI co), .int (nI dr), .int (nI de)])), (aR, .inr (0, [.int (nI R), .ref aB, .ref aS, .ref aT, .int (nI (lo % R)), .int (nI (hi - lo)), .int (nI (off hi % R)), .int (nI (off hi - off lo))])), (aT, .inl (cT, R, .inl Tf))] := hD
      refine lv_iconst (v := (-1)) hx hb dX1_next_32 (by decide) ?_
      have hP := hP.sub (ws' := [(aP, .inr (1, [.ref aR, .ref aX, .int (nI ts), .ref aO, .int (nI os), .int (nI 0), .int fr, .int to, .int (nI u10), .int (nI co), .int (nI dr), .int (nI de)])), (aR, .inr (0, [.int (nI R), .ref aB, .ref aS, .ref aT, .int (nI (lo % R)), .int (nI (hi - lo)), .int (nI (off hi % R)), .int (nI (off hi - off lo))])), (aB, .inl (cB, R, .inl Bf)), (aS, .inl (cS, R, .inl Sf)), (aT, .inl (cT, R, .inl Tf)), (aO, .inl (cO, 512, .inl Of))]) [3, 4, 0, 1, 5, 2] rfl
      have hD := hD.sub (ws' := [(aP, .inr (1, [.ref aR, .ref aX, .int (nI ts), .ref aO, .int (nI os), .int (nI 0), .int fr, .int to, .int (nI u10), .int (nI co), .int (nI dr), .int (nI de)])), (aR, .inr (0, [.int (nI R), .ref aB, .ref aS, .ref aT, .int (nI (lo % R)), .int (nI (hi - lo)), .int (nI (off hi % R)), .int (nI (off hi - off lo))])), (aB, .inl (cB, R, .inl Bf)), (aS, .inl (cS, R, .inl Sf)), (aT, .inl (cT, R, .inl Tf)), (aO, .inl (cO, 512, .inl Of))]) [3, 4, 0, 1, 5, 2] (by decide) rfl
      exact W.iret (v := ((-1))) hx hb hr (fun t ht hW => ⟨⟨_, (u10, 0, os, Of), rfl, ⟨u10, q1, q2, q3, Or.inl ⟨by omega, rfl, rfl⟩⟩, by rw [ht]; exact hP, va_K.moved hW.alike hK, hD⟩, hS.F ht⟩) hS.2.2 dX1_next_33
  · exact absurd c4 (by decide)
set_option maxHeartbeats 4000000 in
set_option maxRecDepth 100000 in
/-- out(j) -/
theorem c_P_out (l : Launch) (dC : Nat → ClassId) (dI : Nat → Nat → Nat) (aP aR aX aO ts os uw : Nat) (fr to : Int32) (pw co dr de : Nat) (cO : ClassId) (Of oz : Nat → Int32) (j : Int32) (hos : os ≤ 512) (hO : ∀ t, t < os → Of t = (oz t).toInt8.toInt32) : Met l yX1_out wsX1_out ({ frames := 0, cells := 0, slots := 0, locals := 0 }) (va_Pc [.ref aP, .int j] (fun U => va_P (dC, dI) vwCl [(aP, .inr (1, [.ref aR, .ref aX, .int (nI ts), .ref aO, .int (nI os), .int (nI uw), .int fr, .int to, .int (nI pw), .int (nI co), .int (nI dr), .int (nI de)])), (aO, .inl (cO, 512, .inl Of))] U.heap ∧ va_K (dC, dI) vwCl [(cO, .byte)] U)) (vp_Si (fun r => r = md_out os oz j)) 0 0 (fun _ => False) := by
  refine Met.ofW (cc := cX1_out) (maxL := 2) (ret := (some .int)) (by decide) rfl ?_
  intro p e s m args below meth c s₁ B hml hv
  obtain ⟨rfl, hP, hK⟩ := hv
  have hx := B.exec
  have hb := B.bytes
  have hr := B.returns
  have hts := atoms_spec (ws := wsX1_out) B.pre
  have hown : s.vm.findClass RX1 = some m.cls := findClass_of_methodNamed B.named
  have hlocks := B.notSynchronized
  have hi_P : ∀ w ∈ u_ws RX1 TX1 12, w ∈ wsX1_out := by decide +kernel
  have hP : va_P (dC, dI) vwCl [(aP, .inr (1, [.ref aR, .ref aX, .int (nI ts), .ref aO, .int (nI os), .int (nI uw), .int fr, .int to, .int (nI pw), .int (nI co), .int (nI dr), .int (nI de)])), (aO, .inl (cO, 512, .inl Of))] s.heap := hP
  have hl := lv_entry ([.ref aP, .int j]) (n := 2) (Nat.le_of_ble_eq_true rfl)
  rw [lg_entry_eq]
  generalize (lg_sl ([.ref aP, .int j]) ++ List.replicate (2 - (lg_sl ([.ref aP, .int j])).length) Slot.unset).toArray = ls at hl ⊢
  have hl : lv_has ls 2 [(0, .ref aP), (1, .int j)] := hl
  refine lv_iload_n hx hb dX1_out_0 rfl (lv_at hl 1 rfl) ?_
  refine lv_if_lt (tgt := 12) hx hb dX1_out_1 (by decide) (fun c1 => ?_) (fun c1 => ?_)
  · refine lv_iconst (v := (-1)) hx hb dX1_out_12 (by decide) ?_
    exact W.iret (v := ((-1))) hx hb hr (fun t ht hW => ⟨_, rfl, by unfold md_out; rw [md_ix_none (fun ⟨q, h1, h2⟩ => nI_pos (n := q) (by omega) (h2 ▸ c1)) (by omega)], ht⟩) (fun q hq => by cases hq) dX1_out_13
  · refine lv_iload_n hx hb dX1_out_4 rfl (lv_at hl 1 rfl) ?_
    refine lv_aload_n hx hb dX1_out_5 rfl (lv_at hl 0 rfl) ?_
    refine va_get (D := (dC, dI)) (ci := 1) (v := .int (nI os)) (C := RX1) (T := TX1) (N := 12) hx hb hts hi_P hown hK hP 0 rfl rfl 4 (by decide) (hts (.fieldLink RX1 91 "PacketStore" "outputSize" "I") (by decide +kernel)) (fun _ h9 => h9) rfl dX1_out_6 ?_
    refine lv_icmp_lt (tgt := 14) hx hb dX1_out_9 (by decide) (fun c9 => ?_) (fun c9 => ?_)
    · obtain ⟨g, hg, eg⟩ := (pk_ix j (show os < 2 ^ 31 by omega)).elim (fun h => absurd h c1) (fun h => h.elim (fun h => absurd c9 (Int32.not_lt.mpr h)) id)
      subst eg
      refine lv_aload_n hx hb dX1_out_14 rfl (lv_at hl 0 rfl) ?_
      refine va_get (D := (dC, dI)) (ci := 1) (v := .ref aO) (C := RX1) (T := TX1) (N := 12) hx hb hts hi_P hown hK hP 0 rfl rfl 3 (by decide) (hts (.fieldLink RX1 31 "PacketStore" "output" "[B") (by decide +kernel)) (fun _ h9 => h9) rfl dX1_out_15 ?_
      refine lv_iload_n hx hb dX1_out_18 rfl (lv_at hl 1 rfl) ?_
      refine zz_bald hx hb hK hP 1 0 rfl rfl (j := g) (by omega) (by omega) dX1_out_19 ?_
      refine lv_sipush (v := nI 255) hx hb dX1_out_20 (by decide) ?_
      refine lv_iand hx hb dX1_out_23 ?_
      exact W.iret (v := (((Of g)) &&& ((nI 255)))) hx hb hr (fun t ht hW => ⟨_, rfl, by unfold md_out; rw [md_ix_some hg (by omega), hO g hg]; exact zz_255 _, ht⟩) (fun q hq => by cases hq) dX1_out_24
    · refine lv_iconst (v := (-1)) hx hb dX1_out_12 (by decide) ?_
      exact W.iret (v := ((-1))) hx hb hr (fun t ht hW => ⟨_, rfl, by unfold md_out; rw [md_ix_none (fun ⟨q, h1, h2⟩ => c9 (h2 ▸ nI_lt h1 (by omega))) (by omega)], ht⟩) (fun q hq => by cases hq) dX1_out_13
