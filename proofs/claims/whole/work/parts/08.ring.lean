set_option maxHeartbeats 4000000 in
set_option maxRecDepth 100000 in
/-- Ring.room() -/
theorem c_R_room (l : Launch) (dC : Nat → ClassId) (dI : Nat → Nat → Nat) (aR aB aS aT R o n en us : Nat)  : Met l yX0_room wsX0_room ({ frames := 0, cells := 0, slots := 0, locals := 0 }) (va_Pc [.ref aR] (fun U => va_P (dC, dI) vwCl [(aR, .inr (0, [.int (nI R), .ref aB, .ref aS, .ref aT, .int (nI o), .int (nI n), .int (nI en), .int (nI us)]))] U.heap ∧ va_K (dC, dI) vwCl [] U)) (vp_Si (fun r => r = nI R)) 0 0 (fun _ => False) := by
  refine Met.ofW (cc := cX0_room) (maxL := 1) (ret := (some .int)) (by decide) rfl ?_
  intro p e s m args below meth c s₁ B hml hv
  obtain ⟨rfl, hP, hK⟩ := hv
  have hx := B.exec
  have hb := B.bytes
  have hr := B.returns
  have hts := atoms_spec (ws := wsX0_room) B.pre
  have hown : s.vm.findClass RX0 = some m.cls := findClass_of_methodNamed B.named
  have hlocks := B.notSynchronized
  have hi_R : ∀ w ∈ u_ws RX0 TX0 8, w ∈ wsX0_room := by decide +kernel
  have hP : va_P (dC, dI) vwCl [(aR, .inr (0, [.int (nI R), .ref aB, .ref aS, .ref aT, .int (nI o), .int (nI n), .int (nI en), .int (nI us)]))] s.heap := hP
  have hl := lv_entry ([.ref aR]) (n := 1) (Nat.le_of_ble_eq_true rfl)
  rw [lg_entry_eq]
  generalize (lg_sl ([.ref aR]) ++ List.replicate (1 - (lg_sl ([.ref aR])).length) Slot.unset).toArray = ls at hl ⊢
  have hl : lv_has ls 1 [(0, .ref aR)] := hl
  refine lv_aload_n hx hb dX0_room_0 rfl (lv_at hl 0 rfl) ?_
  refine va_get (D := (dC, dI)) (ci := 0) (v := .int (nI R)) (C := RX0) (T := TX0) (N := 8) hx hb hts hi_R hown hK hP 0 rfl rfl 0 (by decide) (hts (.fieldLink RX0 7 "PacketStore$Ring" "room" "I") (by decide +kernel)) (fun _ h9 => h9) rfl dX0_room_1 ?_
  exact W.iret (v := (nI R)) hx hb hr (fun t ht hW => ⟨_, rfl, rfl, ht⟩) (fun q hq => by cases hq) dX0_room_4
set_option maxHeartbeats 4000000 in
set_option maxRecDepth 100000 in
/-- Ring.packets() -/
theorem c_R_packets (l : Launch) (dC : Nat → ClassId) (dI : Nat → Nat → Nat) (aR aB aS aT R o n en us : Nat)  : Met l yX0_packets wsX0_packets ({ frames := 0, cells := 0, slots := 0, locals := 0 }) (va_Pc [.ref aR] (fun U => va_P (dC, dI) vwCl [(aR, .inr (0, [.int (nI R), .ref aB, .ref aS, .ref aT, .int (nI o), .int (nI n), .int (nI en), .int (nI us)]))] U.heap ∧ va_K (dC, dI) vwCl [] U)) (vp_Si (fun r => r = nI n)) 0 0 (fun _ => False) := by
  refine Met.ofW (cc := cX0_packets) (maxL := 1) (ret := (some .int)) (by decide) rfl ?_
  intro p e s m args below meth c s₁ B hml hv
  obtain ⟨rfl, hP, hK⟩ := hv
  have hx := B.exec
  have hb := B.bytes
  have hr := B.returns
  have hts := atoms_spec (ws := wsX0_packets) B.pre
  have hown : s.vm.findClass RX0 = some m.cls := findClass_of_methodNamed B.named
  have hlocks := B.notSynchronized
  have hi_R : ∀ w ∈ u_ws RX0 TX0 8, w ∈ wsX0_packets := by decide +kernel
  have hP : va_P (dC, dI) vwCl [(aR, .inr (0, [.int (nI R), .ref aB, .ref aS, .ref aT, .int (nI o), .int (nI n), .int (nI en), .int (nI us)]))] s.heap := hP
  have hl := lv_entry ([.ref aR]) (n := 1) (Nat.le_of_ble_eq_true rfl)
  rw [lg_entry_eq]
  generalize (lg_sl ([.ref aR]) ++ List.replicate (1 - (lg_sl ([.ref aR])).length) Slot.unset).toArray = ls at hl ⊢
  have hl : lv_has ls 1 [(0, .ref aR)] := hl
  refine lv_aload_n hx hb dX0_packets_0 rfl (lv_at hl 0 rfl) ?_
  refine va_get (D := (dC, dI)) (ci := 0) (v := .int (nI n)) (C := RX0) (T := TX0) (N := 8) hx hb hts hi_R hown hK hP 0 rfl rfl 5 (by decide) (hts (.fieldLink RX0 24 "PacketStore$Ring" "packets" "I") (by decide +kernel)) (fun _ h9 => h9) rfl dX0_packets_1 ?_
  exact W.iret (v := (nI n)) hx hb hr (fun t ht hW => ⟨_, rfl, rfl, ht⟩) (fun q hq => by cases hq) dX0_packets_4
set_option maxHeartbeats 4000000 in
set_option maxRecDepth 100000 in
/-- Ring.used() -/
theorem c_R_used (l : Launch) (dC : Nat → ClassId) (dI : Nat → Nat → Nat) (aR aB aS aT R o n en us : Nat)  : Met l yX0_used wsX0_used ({ frames := 0, cells := 0, slots := 0, locals := 0 }) (va_Pc [.ref aR] (fun U => va_P (dC, dI) vwCl [(aR, .inr (0, [.int (nI R), .ref aB, .ref aS, .ref aT, .int (nI o), .int (nI n), .int (nI en), .int (nI us)]))] U.heap ∧ va_K (dC, dI) vwCl [] U)) (vp_Si (fun r => r = nI us)) 0 0 (fun _ => False) := by
  refine Met.ofW (cc := cX0_used) (maxL := 1) (ret := (some .int)) (by decide) rfl ?_
  intro p e s m args below meth c s₁ B hml hv
  obtain ⟨rfl, hP, hK⟩ := hv
  have hx := B.exec
  have hb := B.bytes
  have hr := B.returns
  have hts := atoms_spec (ws := wsX0_used) B.pre
  have hown : s.vm.findClass RX0 = some m.cls := findClass_of_methodNamed B.named
  have hlocks := B.notSynchronized
  have hi_R : ∀ w ∈ u_ws RX0 TX0 8, w ∈ wsX0_used := by decide +kernel
  have hP : va_P (dC, dI) vwCl [(aR, .inr (0, [.int (nI R), .ref aB, .ref aS, .ref aT, .int (nI o), .int (nI n), .int (nI en), .int (nI us)]))] s.heap := hP
  have hl := lv_entry ([.ref aR]) (n := 1) (Nat.le_of_ble_eq_true rfl)
  rw [lg_entry_eq]
  generalize (lg_sl ([.ref aR]) ++ List.replicate (1 - (lg_sl ([.ref aR])).length) Slot.unset).toArray = ls at hl ⊢
  have hl : lv_has ls 1 [(0, .ref aR)] := hl
  refine lv_aload_n hx hb dX0_used_0 rfl (lv_at hl 0 rfl) ?_
  refine va_get (D := (dC, dI)) (ci := 0) (v := .int (nI us)) (C := RX0) (T := TX0) (N := 8) hx hb hts hi_R hown hK hP 0 rfl rfl 7 (by decide) (hts (.fieldLink RX0 27 "PacketStore$Ring" "used" "I") (by decide +kernel)) (fun _ h9 => h9) rfl dX0_used_1 ?_
  exact W.iret (v := (nI us)) hx hb hr (fun t ht hW => ⟨_, rfl, rfl, ht⟩) (fun q hq => by cases hq) dX0_used_4
set_option maxHeartbeats 4000000 in
set_option maxRecDepth 100000 in
/-- Ring.has(k) -/
theorem c_R_has (l : Launch) (dC : Nat → ClassId) (dI : Nat → Nat → Nat) (aR aB aS aT R o n en us : Nat) (k : Int32) (hn : n < 2 ^ 31) : Met l yX0_has wsX0_has ({ frames := 0, cells := 0, slots := 0, locals := 0 }) (va_Pc [.ref aR, .int k] (fun U => va_P (dC, dI) vwCl [(aR, .inr (0, [.int (nI R), .ref aB, .ref aS, .ref aT, .int (nI o), .int (nI n), .int (nI en), .int (nI us)]))] U.heap ∧ va_K (dC, dI) vwCl [] U)) (vp_Si (fun r => (r = nI 0 ∧ ¬ ∃ j, j < n ∧ k = nI j) ∨ (r = nI 1 ∧ ∃ j, j < n ∧ k = nI j))) 0 0 (fun _ => False) := by
  refine Met.ofW (cc := cX0_has) (maxL := 2) (ret := (some .boolean)) (by decide) rfl ?_
  intro p e s m args below meth c s₁ B hml hv
  obtain ⟨rfl, hP, hK⟩ := hv
  have hx := B.exec
  have hb := B.bytes
  have hr := B.returns
  have hts := atoms_spec (ws := wsX0_has) B.pre
  have hown : s.vm.findClass RX0 = some m.cls := findClass_of_methodNamed B.named
  have hlocks := B.notSynchronized
  have hi_R : ∀ w ∈ u_ws RX0 TX0 8, w ∈ wsX0_has := by decide +kernel
  have hP : va_P (dC, dI) vwCl [(aR, .inr (0, [.int (nI R), .ref aB, .ref aS, .ref aT, .int (nI o), .int (nI n), .int (nI en), .int (nI us)]))] s.heap := hP
  have hl := lv_entry ([.ref aR, .int k]) (n := 2) (Nat.le_of_ble_eq_true rfl)
  rw [lg_entry_eq]
  generalize (lg_sl ([.ref aR, .int k]) ++ List.replicate (2 - (lg_sl ([.ref aR, .int k])).length) Slot.unset).toArray = ls at hl ⊢
  have hl : lv_has ls 2 [(0, .ref aR), (1, .int k)] := hl
  refine lv_iload_n hx hb dX0_has_0 rfl (lv_at hl 1 rfl) ?_
  refine lv_if_lt (tgt := 16) hx hb dX0_has_1 (by decide) (fun c1 => ?_) (fun c1 => ?_)
  · refine lv_iconst (v := nI 0) hx hb dX0_has_16 (by decide) ?_
    exact W.zret (v := (nI 0)) hx hb hr rfl (fun t ht hW => ⟨_, rfl, Or.inl ⟨rfl, fun ⟨j, h1, h2⟩ => nI_pos (n := j) (by omega) (h2 ▸ c1)⟩, ht⟩) (fun q hq => by cases hq) dX0_has_17
  · refine lv_iload_n hx hb dX0_has_4 rfl (lv_at hl 1 rfl) ?_
    refine lv_aload_n hx hb dX0_has_5 rfl (lv_at hl 0 rfl) ?_
    refine va_get (D := (dC, dI)) (ci := 0) (v := .int (nI n)) (C := RX0) (T := TX0) (N := 8) hx hb hts hi_R hown hK hP 0 rfl rfl 5 (by decide) (hts (.fieldLink RX0 24 "PacketStore$Ring" "packets" "I") (by decide +kernel)) (fun _ h9 => h9) rfl dX0_has_6 ?_
    refine lv_icmp_ge (tgt := 16) hx hb dX0_has_9 (by decide) (fun c9 => ?_) (fun c9 => ?_)
    · refine lv_iconst (v := nI 0) hx hb dX0_has_16 (by decide) ?_
      exact W.zret (v := (nI 0)) hx hb hr rfl (fun t ht hW => ⟨_, rfl, Or.inl ⟨rfl, fun ⟨j, h1, h2⟩ => nI_ge h1 hn (h2 ▸ c9)⟩, ht⟩) (fun q hq => by cases hq) dX0_has_17
    · refine lv_iconst (v := nI 1) hx hb dX0_has_12 (by decide) ?_
      refine lv_goto (tgt := 17) hx hb dX0_has_13 (by decide) ?_
      exact W.zret (v := (nI 1)) hx hb hr rfl (fun t ht hW => ⟨_, rfl, Or.inr ⟨rfl, (pk_ix k hn).elim (fun h => absurd h c1) (fun h => h.elim (fun h => absurd h c9) id)⟩, ht⟩) (fun q hq => by cases hq) dX0_has_17
set_option maxHeartbeats 4000000 in
set_option maxRecDepth 100000 in
/-- Ring.wrapped(place): the place in the ring -/
theorem c_R_wrapped (l : Launch) (dC : Nat → ClassId) (dI : Nat → Nat → Nat) (aR aB aS aT R o n en us : Nat) (q : Nat) (hq : q < 2 * R) (hR : R < 2 ^ 30) : Met l yX0_wrapped wsX0_wrapped ({ frames := 0, cells := 0, slots := 0, locals := 0 }) (va_Pc [.ref aR, .int (nI q)] (fun U => va_P (dC, dI) vwCl [(aR, .inr (0, [.int (nI R), .ref aB, .ref aS, .ref aT, .int (nI o), .int (nI n), .int (nI en), .int (nI us)]))] U.heap ∧ va_K (dC, dI) vwCl [] U)) (vp_Si (fun r => r = nI (q % R))) 0 0 (fun _ => False) := by
  refine Met.ofW (cc := cX0_wrapped) (maxL := 2) (ret := (some .int)) (by decide) rfl ?_
  intro p e s m args below meth c s₁ B hml hv
  obtain ⟨rfl, hP, hK⟩ := hv
  have hx := B.exec
  have hb := B.bytes
  have hr := B.returns
  have hts := atoms_spec (ws := wsX0_wrapped) B.pre
  have hown : s.vm.findClass RX0 = some m.cls := findClass_of_methodNamed B.named
  have hlocks := B.notSynchronized
  have hi_R : ∀ w ∈ u_ws RX0 TX0 8, w ∈ wsX0_wrapped := by decide +kernel
  have hP : va_P (dC, dI) vwCl [(aR, .inr (0, [.int (nI R), .ref aB, .ref aS, .ref aT, .int (nI o), .int (nI n), .int (nI en), .int (nI us)]))] s.heap := hP
  have hl := lv_entry ([.ref aR, .int (nI q)]) (n := 2) (Nat.le_of_ble_eq_true rfl)
  rw [lg_entry_eq]
  generalize (lg_sl ([.ref aR, .int (nI q)]) ++ List.replicate (2 - (lg_sl ([.ref aR, .int (nI q)])).length) Slot.unset).toArray = ls at hl ⊢
  have hl : lv_has ls 2 [(0, .ref aR), (1, .int (nI q))] := hl
  refine lv_iload_n hx hb dX0_wrapped_0 rfl (lv_at hl 1 rfl) ?_
  refine lv_aload_n hx hb dX0_wrapped_1 rfl (lv_at hl 0 rfl) ?_
  refine va_get (D := (dC, dI)) (ci := 0) (v := .int (nI R)) (C := RX0) (T := TX0) (N := 8) hx hb hts hi_R hown hK hP 0 rfl rfl 0 (by decide) (hts (.fieldLink RX0 7 "PacketStore$Ring" "room" "I") (by decide +kernel)) (fun _ h9 => h9) rfl dX0_wrapped_2 ?_
  refine zz_icmp_ge (a := q) (b := R) (tgt := 12) hx hb dX0_wrapped_5 (by decide) (by omega) (by omega) (fun c5 => ?_) (fun c5 => ?_)
  · refine lv_iload_n hx hb dX0_wrapped_12 rfl (lv_at hl 1 rfl) ?_
    refine lv_aload_n hx hb dX0_wrapped_13 rfl (lv_at hl 0 rfl) ?_
    refine va_get (D := (dC, dI)) (ci := 0) (v := .int (nI R)) (C := RX0) (T := TX0) (N := 8) hx hb hts hi_R hown hK hP 0 rfl rfl 0 (by decide) (hts (.fieldLink RX0 7 "PacketStore$Ring" "room" "I") (by decide +kernel)) (fun _ h9 => h9) rfl dX0_wrapped_14 ?_
    refine lv_isub hx hb dX0_wrapped_17 ?_
    refine zz_as (nI (q - R)) (pk_sub (by omega)) ?_
    exact W.iret (v := (nI (q - R))) hx hb hr (fun t ht hW => ⟨_, rfl, by rw [← rg_wrap hq, if_neg (Nat.not_lt.mpr c5)], ht⟩) (fun q hq => by cases hq) dX0_wrapped_18
  · refine lv_iload_n hx hb dX0_wrapped_8 rfl (lv_at hl 1 rfl) ?_
    refine lv_goto (tgt := 18) hx hb dX0_wrapped_9 (by decide) ?_
    exact W.iret (v := (nI q)) hx hb hr (fun t ht hW => ⟨_, rfl, by rw [← rg_wrap hq, if_pos c5], ht⟩) (fun q hq => by cases hq) dX0_wrapped_18
set_option maxHeartbeats 4000000 in
set_option maxRecDepth 100000 in
/-- Ring.timeOf(k) -/
theorem c_R_timeOf (l : Launch) (dC : Nat → ClassId) (dI : Nat → Nat → Nat) (aR aB aS aT R o n en us : Nat) (cT : ClassId) (Tf : Nat → Int32) (k : Nat) (ho : o < R) (hk : k ≤ R) (hR : R < 2 ^ 30) : Met l yX0_timeOf wsX0_timeOf ({ frames := 1, cells := 0, slots := 0, locals := 21 }) (va_Pc [.ref aR, .int (nI k)] (fun U => va_P (dC, dI) vwCl [(aR, .inr (0, [.int (nI R), .ref aB, .ref aS, .ref aT, .int (nI o), .int (nI n), .int (nI en), .int (nI us)])), (aT, .inl (cT, R, .inl Tf))] U.heap ∧ va_K (dC, dI) vwCl [(cT, .int)] U)) (vp_Si (fun r => r = Tf ((o + k) % R))) 0 0 (fun _ => False) := by
  refine Met.ofW (cc := cX0_timeOf) (maxL := 2) (ret := (some .int)) (by decide) rfl ?_
  intro p e s m args below meth c s₁ B hml hv
  obtain ⟨rfl, hP, hK⟩ := hv
  have hx := B.exec
  have hb := B.bytes
  have hr := B.returns
  have hts := atoms_spec (ws := wsX0_timeOf) B.pre
  have hown : s.vm.findClass RX0 = some m.cls := findClass_of_methodNamed B.named
  have hlocks := B.notSynchronized
  have hi_R : ∀ w ∈ u_ws RX0 TX0 8, w ∈ wsX0_timeOf := by decide +kernel
  have hP : va_P (dC, dI) vwCl [(aR, .inr (0, [.int (nI R), .ref aB, .ref aS, .ref aT, .int (nI o), .int (nI n), .int (nI en), .int (nI us)])), (aT, .inl (cT, R, .inl Tf))] s.heap := hP
  have hl := lv_entry ([.ref aR, .int (nI k)]) (n := 2) (Nat.le_of_ble_eq_true rfl)
  rw [lg_entry_eq]
  generalize (lg_sl ([.ref aR, .int (nI k)]) ++ List.replicate (2 - (lg_sl ([.ref aR, .int (nI k)])).length) Slot.unset).toArray = ls at hl ⊢
  have hl : lv_has ls 2 [(0, .ref aR), (1, .int (nI k))] := hl
  refine lv_aload_n hx hb dX0_timeOf_0 rfl (lv_at hl 0 rfl) ?_
  refine va_get (D := (dC, dI)) (ci := 0) (v := .ref aT) (C := RX0) (T := TX0) (N := 8) hx hb hts hi_R hown hK hP 0 rfl rfl 3 (by decide) (hts (.fieldLink RX0 21 "PacketStore$Ring" "times" "[I") (by decide +kernel)) (fun _ h9 => h9) rfl dX0_timeOf_1 ?_
  refine lv_aload_n hx hb dX0_timeOf_4 rfl (lv_at hl 0 rfl) ?_
  refine lv_aload_n hx hb dX0_timeOf_5 rfl (lv_at hl 0 rfl) ?_
  refine va_get (D := (dC, dI)) (ci := 0) (v := .int (nI o)) (C := RX0) (T := TX0) (N := 8) hx hb hts hi_R hown hK hP 0 rfl rfl 4 (by decide) (hts (.fieldLink RX0 30 "PacketStore$Ring" "oldest" "I") (by decide +kernel)) (fun _ h9 => h9) rfl dX0_timeOf_6 ?_
  refine lv_iload_n hx hb dX0_timeOf_9 rfl (lv_at hl 1 rfl) ?_
  refine lv_iadd hx hb dX0_timeOf_10 ?_
  refine zz_as (nI (o + k)) (nI_add _ _) ?_
  refine zz_callR (As := [.int (nI (o + k))]) (rest := [.ref aT]) ⟨hx, hb, hml, hown, hts⟩ (c_R_wrapped l dC dI aR aB aS aT R o n en us (o + k) (by omega) (by omega)) (cwV 1 hts gX0_timeOf_X0_wrapped rfl rfl rfl (by decide +kernel) ⟨Nat.le_of_ble_eq_true rfl, Nat.le_of_ble_eq_true rfl⟩) (hP.sub [0] rfl) (hK.sub [] rfl) 0 rfl rfl rfl rfl hl.1 rfl (Nat.le_of_ble_eq_true rfl) dX0_timeOf_11 ⟨Nat.zero_le _, Nat.zero_le _⟩ (fun r11 e11 => ?_)
  subst e11
  refine zz_iald hx hb hK hP 1 0 rfl rfl (j := (o + k) % R) (Nat.mod_lt _ (by omega)) (by omega) dX0_timeOf_14 ?_
  exact W.iret (v := (Tf ((o + k) % R))) hx hb hr (fun t ht hW => ⟨_, rfl, rfl, ht⟩) (fun q hq => by cases hq) dX0_timeOf_15
set_option maxHeartbeats 4000000 in
set_option maxRecDepth 100000 in
/-- Ring.startOf(k) -/
theorem c_R_startOf (l : Launch) (dC : Nat → ClassId) (dI : Nat → Nat → Nat) (aR aB aS aT R o n en us : Nat) (cS : ClassId) (Sf : Nat → Int32) (k : Nat) (ho : o < R) (hk : k ≤ R) (hR : R < 2 ^ 30) : Met l yX0_startOf wsX0_startOf ({ frames := 1, cells := 0, slots := 0, locals := 21 }) (va_Pc [.ref aR, .int (nI k)] (fun U => va_P (dC, dI) vwCl [(aR, .inr (0, [.int (nI R), .ref aB, .ref aS, .ref aT, .int (nI o), .int (nI n), .int (nI en), .int (nI us)])), (aS, .inl (cS, R, .inl Sf))] U.heap ∧ va_K (dC, dI) vwCl [(cS, .int)] U)) (vp_Si (fun r => r = Sf ((o + k) % R))) 0 0 (fun _ => False) := by
  refine Met.ofW (cc := cX0_startOf) (maxL := 2) (ret := (some .int)) (by decide) rfl ?_
  intro p e s m args below meth c s₁ B hml hv
  obtain ⟨rfl, hP, hK⟩ := hv
  have hx := B.exec
  have hb := B.bytes
  have hr := B.returns
  have hts := atoms_spec (ws := wsX0_startOf) B.pre
  have hown : s.vm.findClass RX0 = some m.cls := findClass_of_methodNamed B.named
  have hlocks := B.notSynchronized
  have hi_R : ∀ w ∈ u_ws RX0 TX0 8, w ∈ wsX0_startOf := by decide +kernel
  have hP : va_P (dC, dI) vwCl [(aR, .inr (0, [.int (nI R), .ref aB, .ref aS, .ref aT, .int (nI o), .int (nI n), .int (nI en), .int (nI us)])), (aS, .inl (cS, R, .inl Sf))] s.heap := hP
  have hl := lv_entry ([.ref aR, .int (nI k)]) (n := 2) (Nat.le_of_ble_eq_true rfl)
  rw [lg_entry_eq]
  generalize (lg_sl ([.ref aR, .int (nI k)]) ++ List.replicate (2 - (lg_sl ([.ref aR, .int (nI k)])).length) Slot.unset).toArray = ls at hl ⊢
  have hl : lv_has ls 2 [(0, .ref aR), (1, .int (nI k))] := hl
  refine lv_aload_n hx hb dX0_startOf_0 rfl (lv_at hl 0 rfl) ?_
  refine va_get (D := (dC, dI)) (ci := 0) (v := .ref aS) (C := RX0) (T := TX0) (N := 8) hx hb hts hi_R hown hK hP 0 rfl rfl 2 (by decide) (hts (.fieldLink RX0 17 "PacketStore$Ring" "starts" "[I") (by decide +kernel)) (fun _ h9 => h9) rfl dX0_startOf_1 ?_
  refine lv_aload_n hx hb dX0_startOf_4 rfl (lv_at hl 0 rfl) ?_
  refine lv_aload_n hx hb dX0_startOf_5 rfl (lv_at hl 0 rfl) ?_
  refine va_get (D := (dC, dI)) (ci := 0) (v := .int (nI o)) (C := RX0) (T := TX0) (N := 8) hx hb hts hi_R hown hK hP 0 rfl rfl 4 (by decide) (hts (.fieldLink RX0 30 "PacketStore$Ring" "oldest" "I") (by decide +kernel)) (fun _ h9 => h9) rfl dX0_startOf_6 ?_
  refine lv_iload_n hx hb dX0_startOf_9 rfl (lv_at hl 1 rfl) ?_
  refine lv_iadd hx hb dX0_startOf_10 ?_
  refine zz_as (nI (o + k)) (nI_add _ _) ?_
  refine zz_callR (As := [.int (nI (o + k))]) (rest := [.ref aS]) ⟨hx, hb, hml, hown, hts⟩ (c_R_wrapped l dC dI aR aB aS aT R o n en us (o + k) (by omega) (by omega)) (cwV 1 hts gX0_startOf_X0_wrapped rfl rfl rfl (by decide +kernel) ⟨Nat.le_of_ble_eq_true rfl, Nat.le_of_ble_eq_true rfl⟩) (hP.sub [0] rfl) (hK.sub [] rfl) 0 rfl rfl rfl rfl hl.1 rfl (Nat.le_of_ble_eq_true rfl) dX0_startOf_11 ⟨Nat.zero_le _, Nat.zero_le _⟩ (fun r11 e11 => ?_)
  subst e11
  refine zz_iald hx hb hK hP 1 0 rfl rfl (j := (o + k) % R) (Nat.mod_lt _ (by omega)) (by omega) dX0_startOf_14 ?_
  exact W.iret (v := (Sf ((o + k) % R))) hx hb hr (fun t ht hW => ⟨_, rfl, rfl, ht⟩) (fun q hq => by cases hq) dX0_startOf_15
set_option maxHeartbeats 4000000 in
set_option maxRecDepth 100000 in
/-- Ring.sizeOf(k) -/
theorem c_R_sizeOf (l : Launch) (dC : Nat → ClassId) (dI : Nat → Nat → Nat) (aR aB aS aT R lo hi : Nat) (off : Nat → Nat) (us : Nat) (cS : ClassId) (Sf : Nat → Int32) (k : Nat) (hok : rg_ok R lo hi off) (hst : ∀ i, lo ≤ i → i < hi → Sf (i % R) = nI (off i % R)) (hk : lo + k < hi) : Met l yX0_sizeOf wsX0_sizeOf ({ frames := 2, cells := 0, slots := 0, locals := 42 }) (va_Pc [.ref aR, .int (nI k)] (fun U => va_P (dC, dI) vwCl [(aR, .inr (0, [.int (nI R), .ref aB, .ref aS, .ref aT, .int (nI (lo % R)), .int (nI (hi - lo)), .int (nI (off hi % R)), .int (nI us)])), (aS, .inl (cS, R, .inl Sf))] U.heap ∧ va_K (dC, dI) vwCl [(cS, .int)] U)) (vp_Si (fun r => r = nI (off (lo + k + 1) - off (lo + k)))) 0 0 (fun _ => False) := by
  refine Met.ofW (cc := cX0_sizeOf) (maxL := 4) (ret := (some .int)) (by decide) rfl ?_
  intro p e s m args below meth c s₁ B hml hv
  obtain ⟨rfl, hP, hK⟩ := hv
  have hx := B.exec
  have hb := B.bytes
  have hr := B.returns
  have hts := atoms_spec (ws := wsX0_sizeOf) B.pre
  have hown : s.vm.findClass RX0 = some m.cls := findClass_of_methodNamed B.named
  have hlocks := B.notSynchronized
  have hi_R : ∀ w ∈ u_ws RX0 TX0 8, w ∈ wsX0_sizeOf := by decide +kernel
  have hP : va_P (dC, dI) vwCl [(aR, .inr (0, [.int (nI R), .ref aB, .ref aS, .ref aT, .int (nI (lo % R)), .int (nI (hi - lo)), .int (nI (off hi % R)), .int (nI us)])), (aS, .inl (cS, R, .inl Sf))] s.heap := hP
  have hl := lv_entry ([.ref aR, .int (nI k)]) (n := 4) (Nat.le_of_ble_eq_true rfl)
  rw [lg_entry_eq]
  generalize (lg_sl ([.ref aR, .int (nI k)]) ++ List.replicate (4 - (lg_sl ([.ref aR, .int (nI k)])).length) Slot.unset).toArray = ls at hl ⊢
  have hl : lv_has ls 4 [(0, .ref aR), (1, .int (nI k))] := hl
  have hRR := hok.1
  have hll := hok.2.1
  have hcap := hok.2.2.1
  have hgap := hok.gap (Nat.le_refl lo) hll (Nat.le_refl hi)
  have hk1 : off (lo + k) < off (lo + k + 1) := hok.2.2.2 (lo + k) (by omega) hk
  have hk2 : off lo + (lo + k - lo) ≤ off (lo + k) := hok.gap (Nat.le_refl lo) (by omega) (by omega)
  have hk3 : off (lo + k + 1) + (hi - (lo + k + 1)) ≤ off hi := hok.gap (by omega) (by omega) (Nat.le_refl hi)
  refine lv_iload_n hx hb dX0_sizeOf_0 rfl (lv_at hl 1 rfl) ?_
  refine lv_iconst (v := nI 1) hx hb dX0_sizeOf_1 (by decide) ?_
  refine lv_iadd hx hb dX0_sizeOf_2 ?_
  refine zz_as (nI (k + 1)) (nI_add _ _) ?_
  refine lv_aload_n hx hb dX0_sizeOf_3 rfl (lv_at hl 0 rfl) ?_
  refine va_get (D := (dC, dI)) (ci := 0) (v := .int (nI (hi - lo))) (C := RX0) (T := TX0) (N := 8) hx hb hts hi_R hown hK hP 0 rfl rfl 5 (by decide) (hts (.fieldLink RX0 24 "PacketStore$Ring" "packets" "I") (by decide +kernel)) (fun _ h9 => h9) rfl dX0_sizeOf_4 ?_
  refine zz_icmp_ge (a := k + 1) (b := hi - lo) (tgt := 20) hx hb dX0_sizeOf_7 (by decide) (by omega) (by omega) (fun c7 => ?_) (fun c7 => ?_)
  · refine lv_aload_n hx hb dX0_sizeOf_20 rfl (lv_at hl 0 rfl) ?_
    refine va_get (D := (dC, dI)) (ci := 0) (v := .int (nI (off hi % R))) (C := RX0) (T := TX0) (N := 8) hx hb hts hi_R hown hK hP 0 rfl rfl 6 (by decide) (hts (.fieldLink RX0 40 "PacketStore$Ring" "end" "I") (by decide +kernel)) (fun _ h9 => h9) rfl dX0_sizeOf_21 ?_
    refine zz_as (nI (off (lo + k + 1) % R)) (by rw [show hi = lo + k + 1 by omega]) ?_
    refine lv_istore_n (lv' := [(2, .int (nI (off (lo + k + 1) % R))), (0, .ref aR), (1, .int (nI k))]) hx hb dX0_sizeOf_24 rfl hl (by decide) rfl (fun ls hl => ?_)
    refine lv_iload_n hx hb dX0_sizeOf_25 rfl (lv_at hl 0 rfl) ?_
    refine lv_aload_n hx hb dX0_sizeOf_26 rfl (lv_at hl 1 rfl) ?_
    refine lv_iload_n hx hb dX0_sizeOf_27 rfl (lv_at hl 2 rfl) ?_
    refine zz_callR (As := [.int (nI k)]) (rest := [.int (nI (off (lo + k + 1) % R))]) ⟨hx, hb, hml, hown, hts⟩ (c_R_startOf l dC dI aR aB aS aT R (lo % R) (hi - lo) (off hi % R) us cS Sf k (Nat.mod_lt _ (by omega)) (by omega) (by omega)) (cwV 1 hts gX0_sizeOf_X0_startOf rfl rfl rfl (by decide +kernel) ⟨Nat.le_of_ble_eq_true rfl, Nat.le_of_ble_eq_true rfl⟩) (hP.sub [0, 1] rfl) (hK.sub [0] rfl) 0 rfl rfl rfl rfl hl.1 rfl (Nat.le_of_ble_eq_true rfl) dX0_sizeOf_28 ⟨Nat.zero_le _, Nat.zero_le _⟩ (fun r28 e28 => ?_)
    subst e28
    refine zz_as (nI (off (lo + k) % R)) (by rw [Nat.mod_add_mod]; exact hst (lo + k) (by omega) (by omega)) ?_
    refine lv_isub hx hb dX0_sizeOf_31 ?_
    refine lv_istore_n (lv' := [(3, .int (((nI (off (lo + k + 1) % R))) - ((nI (off (lo + k) % R))))), (2, .int (nI (off (lo + k + 1) % R))), (0, .ref aR), (1, .int (nI k))]) hx hb dX0_sizeOf_32 rfl hl (by decide) rfl (fun ls hl => ?_)
    refine lv_iload_n hx hb dX0_sizeOf_33 rfl (lv_at hl 0 rfl) ?_
    refine lv_if_le (tgt := 41) hx hb dX0_sizeOf_34 (by decide) (fun c34 => ?_) (fun c34 => ?_)
    · refine lv_iload_n hx hb dX0_sizeOf_41 rfl (lv_at hl 0 rfl) ?_
      refine lv_aload_n hx hb dX0_sizeOf_42 rfl (lv_at hl 2 rfl) ?_
      refine va_get (D := (dC, dI)) (ci := 0) (v := .int (nI R)) (C := RX0) (T := TX0) (N := 8) hx hb hts hi_R hown hK hP 0 rfl rfl 0 (by decide) (hts (.fieldLink RX0 7 "PacketStore$Ring" "room" "I") (by decide +kernel)) (fun _ h9 => h9) rfl dX0_sizeOf_43 ?_
      refine lv_iadd hx hb dX0_sizeOf_46 ?_
      exact W.iret (v := (((((nI (off (lo + k + 1) % R))) - ((nI (off (lo + k) % R))))) + ((nI R)))) hx hb hr (fun t ht hW => ⟨_, rfl, rg_sz2 (by omega) hk1 (by omega) c34, ht⟩) (fun q hq => by cases hq) dX0_sizeOf_47
    · refine lv_iload_n hx hb dX0_sizeOf_37 rfl (lv_at hl 0 rfl) ?_
      refine lv_goto (tgt := 47) hx hb dX0_sizeOf_38 (by decide) ?_
      exact W.iret (v := (((nI (off (lo + k + 1) % R))) - ((nI (off (lo + k) % R))))) hx hb hr (fun t ht hW => ⟨_, rfl, rg_sz1 (by omega) hk1 (by omega) c34, ht⟩) (fun q hq => by cases hq) dX0_sizeOf_47
  · refine lv_aload_n hx hb dX0_sizeOf_10 rfl (lv_at hl 0 rfl) ?_
    refine lv_iload_n hx hb dX0_sizeOf_11 rfl (lv_at hl 1 rfl) ?_
    refine lv_iconst (v := nI 1) hx hb dX0_sizeOf_12 (by decide) ?_
    refine lv_iadd hx hb dX0_sizeOf_13 ?_
    refine zz_as (nI (k + 1)) (nI_add _ _) ?_
    refine zz_callR (As := [.int (nI (k + 1))]) (rest := []) ⟨hx, hb, hml, hown, hts⟩ (c_R_startOf l dC dI aR aB aS aT R (lo % R) (hi - lo) (off hi % R) us cS Sf (k + 1) (Nat.mod_lt _ (by omega)) (by omega) (by omega)) (cwV 1 hts gX0_sizeOf_X0_startOf rfl rfl rfl (by decide +kernel) ⟨Nat.le_of_ble_eq_true rfl, Nat.le_of_ble_eq_true rfl⟩) (hP.sub [0, 1] rfl) (hK.sub [0] rfl) 0 rfl rfl rfl rfl hl.1 rfl (Nat.le_of_ble_eq_true rfl) dX0_sizeOf_14 ⟨Nat.zero_le _, Nat.zero_le _⟩ (fun r14 e14 => ?_)
    subst e14
    refine zz_as (nI (off (lo + (k + 1)) % R)) (by rw [Nat.mod_add_mod]; exact hst (lo + (k + 1)) (by omega) (by omega)) ?_
    refine lv_goto (tgt := 24) hx hb dX0_sizeOf_17 (by decide) ?_
    refine zz_as (nI (off (lo + k + 1) % R)) rfl ?_
    refine lv_istore_n (lv' := [(2, .int (nI (off (lo + k + 1) % R))), (0, .ref aR), (1, .int (nI k))]) hx hb dX0_sizeOf_24 rfl hl (by decide) rfl (fun ls hl => ?_)
    refine lv_iload_n hx hb dX0_sizeOf_25 rfl (lv_at hl 0 rfl) ?_
    refine lv_aload_n hx hb dX0_sizeOf_26 rfl (lv_at hl 1 rfl) ?_
    refine lv_iload_n hx hb dX0_sizeOf_27 rfl (lv_at hl 2 rfl) ?_
    refine zz_callR (As := [.int (nI k)]) (rest := [.int (nI (off (lo + k + 1) % R))]) ⟨hx, hb, hml, hown, hts⟩ (c_R_startOf l dC dI aR aB aS aT R (lo % R) (hi - lo) (off hi % R) us cS Sf k (Nat.mod_lt _ (by omega)) (by omega) (by omega)) (cwV 1 hts gX0_sizeOf_X0_startOf rfl rfl rfl (by decide +kernel) ⟨Nat.le_of_ble_eq_true rfl, Nat.le_of_ble_eq_true rfl⟩) (hP.sub [0, 1] rfl) (hK.sub [0] rfl) 0 rfl rfl rfl rfl hl.1 rfl (Nat.le_of_ble_eq_true rfl) dX0_sizeOf_28 ⟨Nat.zero_le _, Nat.zero_le _⟩ (fun r28 e28 => ?_)
    subst e28
    refine zz_as (nI (off (lo + k) % R)) (by rw [Nat.mod_add_mod]; exact hst (lo + k) (by omega) (by omega)) ?_
    refine lv_isub hx hb dX0_sizeOf_31 ?_
    refine lv_istore_n (lv' := [(3, .int (((nI (off (lo + k + 1) % R))) - ((nI (off (lo + k) % R))))), (2, .int (nI (off (lo + k + 1) % R))), (0, .ref aR), (1, .int (nI k))]) hx hb dX0_sizeOf_32 rfl hl (by decide) rfl (fun ls hl => ?_)
    refine lv_iload_n hx hb dX0_sizeOf_33 rfl (lv_at hl 0 rfl) ?_
    refine lv_if_le (tgt := 41) hx hb dX0_sizeOf_34 (by decide) (fun c34 => ?_) (fun c34 => ?_)
    · refine lv_iload_n hx hb dX0_sizeOf_41 rfl (lv_at hl 0 rfl) ?_
      refine lv_aload_n hx hb dX0_sizeOf_42 rfl (lv_at hl 2 rfl) ?_
      refine va_get (D := (dC, dI)) (ci := 0) (v := .int (nI R)) (C := RX0) (T := TX0) (N := 8) hx hb hts hi_R hown hK hP 0 rfl rfl 0 (by decide) (hts (.fieldLink RX0 7 "PacketStore$Ring" "room" "I") (by decide +kernel)) (fun _ h9 => h9) rfl dX0_sizeOf_43 ?_
      refine lv_iadd hx hb dX0_sizeOf_46 ?_
      exact W.iret (v := (((((nI (off (lo + k + 1) % R))) - ((nI (off (lo + k) % R))))) + ((nI R)))) hx hb hr (fun t ht hW => ⟨_, rfl, rg_sz2 (by omega) hk1 (by omega) c34, ht⟩) (fun q hq => by cases hq) dX0_sizeOf_47
    · refine lv_iload_n hx hb dX0_sizeOf_37 rfl (lv_at hl 0 rfl) ?_
      refine lv_goto (tgt := 47) hx hb dX0_sizeOf_38 (by decide) ?_
      exact W.iret (v := (((nI (off (lo + k + 1) % R))) - ((nI (off (lo + k) % R))))) hx hb hr (fun t ht hW => ⟨_, rfl, rg_sz1 (by omega) hk1 (by omega) c34, ht⟩) (fun q hq => by cases hq) dX0_sizeOf_47
set_option maxHeartbeats 4000000 in
set_option maxRecDepth 100000 in
/-- Ring.byteOf(k, j) -/
theorem c_R_byteOf (l : Launch) (dC : Nat → ClassId) (dI : Nat → Nat → Nat) (aR aB aS aT R lo hi : Nat) (off : Nat → Nat) (us : Nat) (cB cS : ClassId) (Bf Sf bz : Nat → Int32) (k j : Nat) (hok : rg_ok R lo hi off) (hst : ∀ i, lo ≤ i → i < hi → Sf (i % R) = nI (off i % R)) (hbz : ∀ q, off lo ≤ q → q < off hi → Bf (q % R) = (bz q).toInt8.toInt32) (hk : lo + k < hi) (hj : off (lo + k) + j < off (lo + k + 1)) : Met l yX0_byteOf wsX0_byteOf ({ frames := 2, cells := 0, slots := 0, locals := 42 }) (va_Pc [.ref aR, .int (nI k), .int (nI j)] (fun U => va_P (dC, dI) vwCl [(aR, .inr (0, [.int (nI R), .ref aB, .ref aS, .ref aT, .int (nI (lo % R)), .int (nI (hi - lo)), .int (nI (off hi % R)), .int (nI us)])), (aB, .inl (cB, R, .inl Bf)), (aS, .inl (cS, R, .inl Sf))] U.heap ∧ va_K (dC, dI) vwCl [(cB, .byte), (cS, .int)] U)) (vp_Si (fun r => r = (bz (off (lo + k) + j)).toInt8.toInt32)) 0 0 (fun _ => False) := by
  refine Met.ofW (cc := cX0_byteOf) (maxL := 3) (ret := (some .byte)) (by decide) rfl ?_
  intro p e s m args below meth c s₁ B hml hv
  obtain ⟨rfl, hP, hK⟩ := hv
  have hx := B.exec
  have hb := B.bytes
  have hr := B.returns
  have hts := atoms_spec (ws := wsX0_byteOf) B.pre
  have hown : s.vm.findClass RX0 = some m.cls := findClass_of_methodNamed B.named
  have hlocks := B.notSynchronized
  have hi_R : ∀ w ∈ u_ws RX0 TX0 8, w ∈ wsX0_byteOf := by decide +kernel
  have hP : va_P (dC, dI) vwCl [(aR, .inr (0, [.int (nI R), .ref aB, .ref aS, .ref aT, .int (nI (lo % R)), .int (nI (hi - lo)), .int (nI (off hi % R)), .int (nI us)])), (aB, .inl (cB, R, .inl Bf)), (aS, .inl (cS, R, .inl Sf))] s.heap := hP
  have hl := lv_entry ([.ref aR, .int (nI k), .int (nI j)]) (n := 3) (Nat.le_of_ble_eq_true rfl)
  rw [lg_entry_eq]
  generalize (lg_sl ([.ref aR, .int (nI k), .int (nI j)]) ++ List.replicate (3 - (lg_sl ([.ref aR, .int (nI k), .int (nI j)])).length) Slot.unset).toArray = ls at hl ⊢
  have hl : lv_has ls 3 [(0, .ref aR), (1, .int (nI k)), (2, .int (nI j))] := hl
  have hRR := hok.1
  have hll := hok.2.1
  have hcap := hok.2.2.1
  have hgap := hok.gap (Nat.le_refl lo) hll (Nat.le_refl hi)
  have hk1 : off (lo + k) < off (lo + k + 1) := hok.2.2.2 (lo + k) (by omega) hk
  have hk2 : off lo + (lo + k - lo) ≤ off (lo + k) := hok.gap (Nat.le_refl lo) (by omega) (by omega)
  have hk3 : off (lo + k + 1) + (hi - (lo + k + 1)) ≤ off hi := hok.gap (by omega) (by omega) (Nat.le_refl hi)
  refine lv_aload_n hx hb dX0_byteOf_0 rfl (lv_at hl 0 rfl) ?_
  refine va_get (D := (dC, dI)) (ci := 0) (v := .ref aB) (C := RX0) (T := TX0) (N := 8) hx hb hts hi_R hown hK hP 0 rfl rfl 1 (by decide) (hts (.fieldLink RX0 13 "PacketStore$Ring" "bytes" "[B") (by decide +kernel)) (fun _ h9 => h9) rfl dX0_byteOf_1 ?_
  refine lv_aload_n hx hb dX0_byteOf_4 rfl (lv_at hl 0 rfl) ?_
  refine lv_aload_n hx hb dX0_byteOf_5 rfl (lv_at hl 0 rfl) ?_
  refine lv_iload_n hx hb dX0_byteOf_6 rfl (lv_at hl 1 rfl) ?_
  refine zz_callR (As := [.int (nI k)]) (rest := [.ref aR, .ref aB]) ⟨hx, hb, hml, hown, hts⟩ (c_R_startOf l dC dI aR aB aS aT R (lo % R) (hi - lo) (off hi % R) us cS Sf k (Nat.mod_lt _ (by omega)) (by omega) (by omega)) (cwV 1 hts gX0_byteOf_X0_startOf rfl rfl rfl (by decide +kernel) ⟨Nat.le_of_ble_eq_true rfl, Nat.le_of_ble_eq_true rfl⟩) (hP.sub [0, 2] rfl) (hK.sub [1] rfl) 0 rfl rfl rfl rfl hl.1 rfl (Nat.le_of_ble_eq_true rfl) dX0_byteOf_7 ⟨Nat.zero_le _, Nat.zero_le _⟩ (fun r7 e7 => ?_)
  subst e7
  refine zz_as (nI (off (lo + k) % R)) (by rw [Nat.mod_add_mod]; exact hst (lo + k) (by omega) (by omega)) ?_
  refine lv_iload_n hx hb dX0_byteOf_10 rfl (lv_at hl 2 rfl) ?_
  refine lv_iadd hx hb dX0_byteOf_11 ?_
  refine zz_as (nI ((off (lo + k) % R) + j)) (nI_add _ _) ?_
  refine zz_callR (As := [.int (nI ((off (lo + k) % R) + j))]) (rest := [.ref aB]) ⟨hx, hb, hml, hown, hts⟩ (c_R_wrapped l dC dI aR aB aS aT R (lo % R) (hi - lo) (off hi % R) us ((off (lo + k) % R) + j) (by have := Nat.mod_lt (off (lo + k)) (show 0 < R by omega); omega) (by omega)) (cwV 1 hts gX0_byteOf_X0_wrapped rfl rfl rfl (by decide +kernel) ⟨Nat.le_of_ble_eq_true rfl, Nat.le_of_ble_eq_true rfl⟩) (hP.sub [0] rfl) (hK.sub [] rfl) 0 rfl rfl rfl rfl hl.1 rfl (Nat.le_of_ble_eq_true rfl) dX0_byteOf_12 ⟨Nat.zero_le _, Nat.zero_le _⟩ (fun r12 e12 => ?_)
  subst e12
  refine zz_bald hx hb hK hP 1 0 rfl rfl (j := ((off (lo + k) % R) + j) % R) (Nat.mod_lt _ (by omega)) (by omega) dX0_byteOf_15 ?_
  refine zz_as ((bz (off (lo + k) + j)).toInt8.toInt32) (by rw [Nat.mod_add_mod]; exact hbz _ (by omega) (by omega)) ?_
  exact W.zret (v := ((bz (off (lo + k) + j)).toInt8.toInt32)) hx hb hr (pk_nb _) (fun t ht hW => ⟨_, rfl, rfl, ht⟩) (fun q hq => by cases hq) dX0_byteOf_16
theorem zz_updlt {f g : Nat → Int32} {j : Nat} {x : Int32} (h : ∀ t, t < j → f t = g t) (hx : x = g j) : ∀ t, t < j + 1 → upd f j x t = g t := by
  intro t ht
  by_cases q : t = j
  · rw [q, pk_us, hx]
  · rw [pk_un q]
    exact h t (by omega)
set_option maxHeartbeats 4000000 in
set_option maxRecDepth 100000 in
/-- Ring.copy(k, size, target) -/
theorem c_R_copy (l : Launch) (dC : Nat → ClassId) (dI : Nat → Nat → Nat) (aR aB aS aT R lo hi : Nat) (off : Nat → Nat) (us : Nat) (cB cS cO : ClassId) (Bf Sf bz : Nat → Int32) (aO : Nat) (Of : Nat → Int32) (k sz : Nat) (hok : rg_ok R lo hi off) (hst : ∀ i, lo ≤ i → i < hi → Sf (i % R) = nI (off i % R)) (hbz : ∀ q, off lo ≤ q → q < off hi → Bf (q % R) = (bz q).toInt8.toInt32) (hk : lo + k < hi) (hsk : sz = off (lo + k + 1) - off (lo + k)) (hs5 : sz ≤ 512) (hz : Nat) : Met l yX0_copy wsX0_copy ({ frames := 3, cells := 0, slots := 0, locals := 64 }) (va_Pc [.ref aR, .int (nI k), .int (nI sz), .ref aO] (fun U => U.heap.size = hz ∧ va_P (dC, dI) vwCl [(aR, .inr (0, [.int (nI R), .ref aB, .ref aS, .ref aT, .int (nI (lo % R)), .int (nI (hi - lo)), .int (nI (off hi % R)), .int (nI us)])), (aB, .inl (cB, R, .inl Bf)), (aS, .inl (cS, R, .inl Sf)), (aO, .inl (cO, 512, .inl Of))] U.heap ∧ va_K (dC, dI) vwCl [(cB, .byte), (cS, .int), (cO, .byte)] U ∧ va_D (fun _ => True) [(aR, .inr (0, [.int (nI R), .ref aB, .ref aS, .ref aT, .int (nI (lo % R)), .int (nI (hi - lo)), .int (nI (off hi % R)), .int (nI us)])), (aB, .inl (cB, R, .inl Bf)), (aS, .inl (cS, R, .inl Sf)), (aO, .inl (cO, 512, .inl Of))])) (va_Qv (fun (u : Nat → Int32) => ∀ t, t < sz → u t = (bz (off (lo + k) + t)).toInt8.toInt32) (fun u t => va_P (dC, dI) vwCl [(aR, .inr (0, [.int (nI R), .ref aB, .ref aS, .ref aT, .int (nI (lo % R)), .int (nI (hi - lo)), .int (nI (off hi % R)), .int (nI us)])), (aB, .inl (cB, R, .inl Bf)), (aS, .inl (cS, R, .inl Sf)), (aO, .inl (cO, 512, .inl u))] t.heap ∧ va_K (dC, dI) vwCl [(cB, .byte), (cS, .int), (cO, .byte)] t ∧ va_D (va_A [(aR, .inr (0, [.int (nI R), .ref aB, .ref aS, .ref aT, .int (nI (lo % R)), .int (nI (hi - lo)), .int (nI (off hi % R)), .int (nI us)])), (aB, .inl (cB, R, .inl Bf)), (aS, .inl (cS, R, .inl Sf)), (aO, .inl (cO, 512, .inl Of))] hz) [(aR, .inr (0, [.int (nI R), .ref aB, .ref aS, .ref aT, .int (nI (lo % R)), .int (nI (hi - lo)), .int (nI (off hi % R)), .int (nI us)])), (aB, .inl (cB, R, .inl Bf)), (aS, .inl (cS, R, .inl Sf)), (aO, .inl (cO, 512, .inl u))]) (va_A [(aR, .inr (0, [.int (nI R), .ref aB, .ref aS, .ref aT, .int (nI (lo % R)), .int (nI (hi - lo)), .int (nI (off hi % R)), .int (nI us)])), (aB, .inl (cB, R, .inl Bf)), (aS, .inl (cS, R, .inl Sf)), (aO, .inl (cO, 512, .inl Of))] hz)) 0 0 (va_A [(aR, .inr (0, [.int (nI R), .ref aB, .ref aS, .ref aT, .int (nI (lo % R)), .int (nI (hi - lo)), .int (nI (off hi % R)), .int (nI us)])), (aB, .inl (cB, R, .inl Bf)), (aS, .inl (cS, R, .inl Sf)), (aO, .inl (cO, 512, .inl Of))] hz) := by
  refine Met.ofW (cc := cX0_copy) (maxL := 5) (ret := none) (by decide) rfl ?_
  intro p e s m args below meth c s₁ B hml hv
  obtain ⟨rfl, hsz, hP, hK, hD0⟩ := hv
  have hx := B.exec
  have hb := B.bytes
  have hr := B.returns
  have hts := atoms_spec (ws := wsX0_copy) B.pre
  have hown : s.vm.findClass RX0 = some m.cls := findClass_of_methodNamed B.named
  have hlocks := B.notSynchronized
  subst hsz
  have hD := hD0.self (sz := s.heap.size)
  generalize hAe : va_A [(aR, .inr (0, [.int (nI R), .ref aB, .ref aS, .ref aT, .int (nI (lo % R)), .int (nI (hi - lo)), .int (nI (off hi % R)), .int (nI us)])), (aB, .inl (cB, R, .inl Bf)), (aS, .inl (cS, R, .inl Sf)), (aO, .inl (cO, 512, .inl Of))] s.heap.size = A at hD ⊢
  have hA : ∀ q : Nat, s.heap.size ≤ q → A q := fun q h => by rw [← hAe]; exact Or.inr h
  have hS : va_S A s.heap s.heap [] := va_S.rf
  have hP : va_P (dC, dI) vwCl [(aR, .inr (0, [.int (nI R), .ref aB, .ref aS, .ref aT, .int (nI (lo % R)), .int (nI (hi - lo)), .int (nI (off hi % R)), .int (nI us)])), (aB, .inl (cB, R, .inl Bf)), (aS, .inl (cS, R, .inl Sf)), (aO, .inl (cO, 512, .inl Of))] s.heap := hP
  have hl := lv_entry ([.ref aR, .int (nI k), .int (nI sz), .ref aO]) (n := 5) (Nat.le_of_ble_eq_true rfl)
  rw [lg_entry_eq]
  generalize (lg_sl ([.ref aR, .int (nI k), .int (nI sz), .ref aO]) ++ List.replicate (5 - (lg_sl ([.ref aR, .int (nI k), .int (nI sz), .ref aO])).length) Slot.unset).toArray = ls at hl ⊢
  have hl : lv_has ls 5 [(0, .ref aR), (1, .int (nI k)), (2, .int (nI sz)), (3, .ref aO)] := hl
  have hRR := hok.1
  have hll := hok.2.1
  have hcap := hok.2.2.1
  have hgap := hok.gap (Nat.le_refl lo) hll (Nat.le_refl hi)
  have hk1 : off (lo + k) < off (lo + k + 1) := hok.2.2.2 (lo + k) (by omega) hk
  have hk2 : off lo + (lo + k - lo) ≤ off (lo + k) := hok.gap (Nat.le_refl lo) (by omega) (by omega)
  have hk3 : off (lo + k + 1) + (hi - (lo + k + 1)) ≤ off hi := hok.gap (by omega) (by omega) (Nat.le_refl hi)
  refine lv_iconst (v := nI 0) hx hb dX0_copy_0 (by decide) ?_
  refine lv_istore (lv' := [(4, .int (nI 0)), (0, .ref aR), (1, .int (nI k)), (2, .int (nI sz)), (3, .ref aO)]) hx hb dX0_copy_1 hl (by decide) rfl (fun ls hl => ?_)
  refine zz_loop (σ := Nat × (Nat → Int32)) (fun n v H locs ls => (n + v.1 = sz + 1 ∧ v.1 ≤ sz ∧ ∀ t, t < v.1 → v.2 t = (bz (off (lo + k) + t)).toInt8.toInt32) ∧ va_P (dC, dI) vwCl [(aR, .inr (0, [.int (nI R), .ref aB, .ref aS, .ref aT, .int (nI (lo % R)), .int (nI (hi - lo)), .int (nI (off hi % R)), .int (nI us)])), (aB, .inl (cB, R, .inl Bf)), (aS, .inl (cS, R, .inl Sf)), (aO, .inl (cO, 512, .inl v.2))] H ∧ va_D A [(aR, .inr (0, [.int (nI R), .ref aB, .ref aS, .ref aT, .int (nI (lo % R)), .int (nI (hi - lo)), .int (nI (off hi % R)), .int (nI us)])), (aB, .inl (cB, R, .inl Bf)), (aS, .inl (cS, R, .inl Sf)), (aO, .inl (cO, 512, .inl v.2))] ∧ va_S A s.heap H locs ∧ lv_has ls 5 [(4, .int (nI v.1)), (0, .ref aR), (1, .int (nI k)), (2, .int (nI sz)), (3, .ref aO)]) (fun v H locs ls h => ?_) (fun n v H locs ls h ih => ?_) (sz + 1) (0, Of) _ _ _ ⟨⟨rfl, Nat.zero_le _, fun t h => absurd h (Nat.not_lt_zero t)⟩, hP, hD, hS, lv_sub hl [0, 1, 2, 3, 4] rfl⟩
  · obtain ⟨⟨h1, h2, -⟩, -⟩ := h
    omega
  obtain ⟨j, Og⟩ := v
  obtain ⟨⟨hj1, hj2, hO⟩, hP, hD, hS, hl⟩ := h
  dsimp only at hj1 hj2 hO
  have hP : va_P (dC, dI) vwCl [(aR, .inr (0, [.int (nI R), .ref aB, .ref aS, .ref aT, .int (nI (lo % R)), .int (nI (hi - lo)), .int (nI (off hi % R)), .int (nI us)])), (aB, .inl (cB, R, .inl Bf)), (aS, .inl (cS, R, .inl Sf)), (aO, .inl (cO, 512, .inl Og))] H := hP
  have hD : va_D A [(aR, .inr (0, [.int (nI R), .ref aB, .ref aS, .ref aT, .int (nI (lo % R)), .int (nI (hi - lo)), .int (nI (off hi % R)), .int (nI us)])), (aB, .inl (cB, R, .inl Bf)), (aS, .inl (cS, R, .inl Sf)), (aO, .inl (cO, 512, .inl Og))] := hD
  have hl : lv_has ls 5 [(4, .int (nI j)), (0, .ref aR), (1, .int (nI k)), (2, .int (nI sz)), (3, .ref aO)] := hl
  refine lv_iload hx hb dX0_copy_3 (lv_at hl 0 rfl) ?_
  refine lv_iload_n hx hb dX0_copy_5 rfl (lv_at hl 3 rfl) ?_
  refine zz_icmp_ge (a := j) (b := sz) (tgt := 26) hx hb dX0_copy_6 (by decide) (by omega) (by omega) (fun c6 => ?_) (fun c6 => ?_)
  · exact W.vret hx hb hr (fun t ht hW => ⟨⟨Og, rfl, fun t h => hO t (by omega), by rw [ht]; exact hP, va_K.moved hW.alike hK, hD⟩, hS.F ht⟩) hS.2.2 dX0_copy_26
  · refine lv_aload_n hx hb dX0_copy_9 rfl (lv_at hl 4 rfl) ?_
    refine lv_iload hx hb dX0_copy_10 (lv_at hl 0 rfl) ?_
    refine lv_aload_n hx hb dX0_copy_12 rfl (lv_at hl 1 rfl) ?_
    refine lv_iload_n hx hb dX0_copy_13 rfl (lv_at hl 2 rfl) ?_
    refine lv_iload hx hb dX0_copy_14 (lv_at hl 0 rfl) ?_
    refine zz_callR (As := [.int (nI k), .int (nI j)]) (rest := [.int (nI j), .ref aO]) ⟨hx, hb, hml, hown, hts⟩ (c_R_byteOf l dC dI aR aB aS aT R lo hi off us cB cS Bf Sf bz k j hok hst hbz hk (by omega)) (cwV 2 hts gX0_copy_X0_byteOf rfl rfl rfl (by decide +kernel) ⟨Nat.le_of_ble_eq_true rfl, Nat.le_of_ble_eq_true rfl⟩) (hP.sub [0, 1, 2] rfl) (hK.sub [0, 1] rfl) 0 rfl rfl rfl rfl hl.1 rfl (Nat.le_of_ble_eq_true rfl) dX0_copy_16 ⟨Nat.zero_le _, Nat.zero_le _⟩ (fun r16 e16 => ?_)
    subst e16
    refine zz_bast hx hb hK hP hD hS 3 2 rfl rfl (j := j) (x := (((bz (off (lo + k) + j)).toInt8.toInt32))) (by omega) (by omega) dX0_copy_19 (fun H locs hP hD hS => ?_)
    have hP : va_P (dC, dI) vwCl [(aR, .inr (0, [.int (nI R), .ref aB, .ref aS, .ref aT, .int (nI (lo % R)), .int (nI (hi - lo)), .int (nI (off hi % R)), .int (nI us)])), (aB, .inl (cB, R, .inl Bf)), (aS, .inl (cS, R, .inl Sf)), (aO, .inl (cO, 512, .inl (upd Og j ((((bz (off (lo + k) + j)).toInt8.toInt32)).toInt8.toInt32))))] H := hP
    have hD : va_D A [(aR, .inr (0, [.int (nI R), .ref aB, .ref aS, .ref aT, .int (nI (lo % R)), .int (nI (hi - lo)), .int (nI (off hi % R)), .int (nI us)])), (aB, .inl (cB, R, .inl Bf)), (aS, .inl (cS, R, .inl Sf)), (aO, .inl (cO, 512, .inl (upd Og j ((((bz (off (lo + k) + j)).toInt8.toInt32)).toInt8.toInt32))))] := hD
    refine lv_iinc (v := nI (j + 1)) (lv' := [(4, .int (nI (j + 1))), (0, .ref aR), (1, .int (nI k)), (2, .int (nI sz)), (3, .ref aO)]) hx hb dX0_copy_20 hl (k := 0) rfl (show nI j + 1 = nI (j + 1) from nI_1 _) (by decide) rfl (fun ls hl => ?_)
    refine lv_goto (tgt := 3) hx hb dX0_copy_23 (by decide) ?_
    exact ih (j + 1, upd Og j ((((bz (off (lo + k) + j)).toInt8.toInt32)).toInt8.toInt32)) _ _ _ ⟨⟨by show n + (j + 1) = sz + 1; omega, by show j + 1 ≤ sz; omega, zz_updlt (g := fun t => (bz (off (lo + k) + t)).toInt8.toInt32) hO (zz_i8 _)⟩, hP, hD, hS, lv_sub hl [0, 1, 2, 3, 4] rfl⟩
theorem zz_addB1 {f g : Nat → Int32} {R a b j : Nat} {x : Int32} (h : ∀ q, a ≤ q → q < b → f (q % R) = g (q % R)) (h1 : b + j < a + R) (h2 : a ≤ b) : ∀ q, a ≤ q → q < b → upd f ((b + j) % R) x (q % R) = g (q % R) := by
  intro q h3 h4
  rw [pk_un (rg_ne (by omega) (by omega))]
  exact h q h3 h4
theorem zz_addB2 {f g : Nat → Int32} {R b j : Nat} {x : Int32} (h : ∀ t, t < j → f ((b + t) % R) = g t) (hx : x = g j) (h1 : j < R) : ∀ t, t < j + 1 → upd f ((b + j) % R) x ((b + t) % R) = g t := by
  intro t ht
  by_cases q : t = j
  · rw [q, pk_us, hx]
  · rw [pk_un (rg_ne (by omega) (by omega))]
    exact h t (by omega)
set_option maxHeartbeats 4000000 in
set_option maxRecDepth 100000 in
/-- Ring.add(source, size, time) -/
theorem c_R_add (l : Launch) (dC : Nat → ClassId) (dI : Nat → Nat → Nat) (aR aB aS aT R lo hi : Nat) (off : Nat → Nat) (cB cS cT cX : ClassId) (Bf Sf Tf : Nat → Int32) (aX : Nat) (Xf tz : Nat → Int32) (sz : Nat) (tim : Int32) (hok : rg_ok R lo hi off) (hs1 : 1 ≤ sz) (hs5 : sz ≤ 512) (hfit : off hi - off lo + sz ≤ R) (htx : ∀ t, t < sz → Xf t = (tz t).toInt8.toInt32) (hz : Nat) : Met l yX0_add wsX0_add ({ frames := 1, cells := 0, slots := 0, locals := 21 }) (va_Pc [.ref aR, .ref aX, .int (nI sz), .int tim] (fun U => U.heap.size = hz ∧ va_P (dC, dI) vwCl [(aR, .inr (0, [.int (nI R), .ref aB, .ref aS, .ref aT, .int (nI (lo % R)), .int (nI (hi - lo)), .int (nI (off hi % R)), .int (nI (off hi - off lo))])), (aB, .inl (cB, R, .inl Bf)), (aS, .inl (cS, R, .inl Sf)), (aT, .inl (cT, R, .inl Tf)), (aX, .inl (cX, 512, .inl Xf))] U.heap ∧ va_K (dC, dI) vwCl [(cB, .byte), (cS, .int), (cT, .int), (cX, .byte)] U ∧ va_D (fun _ => True) [(aR, .inr (0, [.int (nI R), .ref aB, .ref aS, .ref aT, .int (nI (lo % R)), .int (nI (hi - lo)), .int (nI (off hi % R)), .int (nI (off hi - off lo))])), (aB, .inl (cB, R, .inl Bf)), (aS, .inl (cS, R, .inl Sf)), (aT, .inl (cT, R, .inl Tf)), (aX, .inl (cX, 512, .inl Xf))])) (va_Qv (fun (u : Nat → Int32) => (∀ q, off lo ≤ q → q < off hi → u (q % R) = Bf (q % R)) ∧ ∀ t, t < sz → u ((off hi + t) % R) = (tz t).toInt8.toInt32) (fun u t => va_P (dC, dI) vwCl [(aR, .inr (0, [.int (nI R), .ref aB, .ref aS, .ref aT, .int (nI (lo % R)), .int (nI (hi + 1 - lo)), .int (nI ((off hi + sz) % R)), .int (nI (off hi + sz - off lo))])), (aB, .inl (cB, R, .inl u)), (aS, .inl (cS, R, .inl (upd Sf (hi % R) (nI (off hi % R))))), (aT, .inl (cT, R, .inl (upd Tf (hi % R) tim))), (aX, .inl (cX, 512, .inl Xf))] t.heap ∧ va_K (dC, dI) vwCl [(cB, .byte), (cS, .int), (cT, .int), (cX, .byte)] t ∧ va_D (va_A [(aR, .inr (0, [.int (nI R), .ref aB, .ref aS, .ref aT, .int (nI (lo % R)), .int (nI (hi - lo)), .int (nI (off hi % R)), .int (nI (off hi - off lo))])), (aB, .inl (cB, R, .inl Bf)), (aS, .inl (cS, R, .inl Sf)), (aT, .inl (cT, R, .inl Tf)), (aX, .inl (cX, 512, .inl Xf))] hz) [(aR, .inr (0, [.int (nI R), .ref aB, .ref aS, .ref aT, .int (nI (lo % R)), .int (nI (hi + 1 - lo)), .int (nI ((off hi + sz) % R)), .int (nI (off hi + sz - off lo))])), (aB, .inl (cB, R, .inl u)), (aS, .inl (cS, R, .inl (upd Sf (hi % R) (nI (off hi % R))))), (aT, .inl (cT, R, .inl (upd Tf (hi % R) tim))), (aX, .inl (cX, 512, .inl Xf))]) (va_A [(aR, .inr (0, [.int (nI R), .ref aB, .ref aS, .ref aT, .int (nI (lo % R)), .int (nI (hi - lo)), .int (nI (off hi % R)), .int (nI (off hi - off lo))])), (aB, .inl (cB, R, .inl Bf)), (aS, .inl (cS, R, .inl Sf)), (aT, .inl (cT, R, .inl Tf)), (aX, .inl (cX, 512, .inl Xf))] hz)) 0 0 (va_A [(aR, .inr (0, [.int (nI R), .ref aB, .ref aS, .ref aT, .int (nI (lo % R)), .int (nI (hi - lo)), .int (nI (off hi % R)), .int (nI (off hi - off lo))])), (aB, .inl (cB, R, .inl Bf)), (aS, .inl (cS, R, .inl Sf)), (aT, .inl (cT, R, .inl Tf)), (aX, .inl (cX, 512, .inl Xf))] hz) := by
  refine Met.ofW (cc := cX0_add) (maxL := 6) (ret := none) (by decide) rfl ?_
  intro p e s m args below meth c s₁ B hml hv
  obtain ⟨rfl, hsz, hP, hK, hD0⟩ := hv
  have hx := B.exec
  have hb := B.bytes
  have hr := B.returns
  have hts := atoms_spec (ws := wsX0_add) B.pre
  have hown : s.vm.findClass RX0 = some m.cls := findClass_of_methodNamed B.named
  have hlocks := B.notSynchronized
  have hi_R : ∀ w ∈ u_ws RX0 TX0 8, w ∈ wsX0_add := by decide +kernel
  subst hsz
  have hD := hD0.self (sz := s.heap.size)
  generalize hAe : va_A [(aR, .inr (0, [.int (nI R), .ref aB, .ref aS, .ref aT, .int (nI (lo % R)), .int (nI (hi - lo)), .int (nI (off hi % R)), .int (nI (off hi - off lo))])), (aB, .inl (cB, R, .inl Bf)), (aS, .inl (cS, R, .inl Sf)), (aT, .inl (cT, R, .inl Tf)), (aX, .inl (cX, 512, .inl Xf))] s.heap.size = A at hD ⊢
  have hA : ∀ q : Nat, s.heap.size ≤ q → A q := fun q h => by rw [← hAe]; exact Or.inr h
  have hS : va_S A s.heap s.heap [] := va_S.rf
  have hP : va_P (dC, dI) vwCl [(aR, .inr (0, [.int (nI R), .ref aB, .ref aS, .ref aT, .int (nI (lo % R)), .int (nI (hi - lo)), .int (nI (off hi % R)), .int (nI (off hi - off lo))])), (aB, .inl (cB, R, .inl Bf)), (aS, .inl (cS, R, .inl Sf)), (aT, .inl (cT, R, .inl Tf)), (aX, .inl (cX, 512, .inl Xf))] s.heap := hP
  have hl := lv_entry ([.ref aR, .ref aX, .int (nI sz), .int tim]) (n := 6) (Nat.le_of_ble_eq_true rfl)
  rw [lg_entry_eq]
  generalize (lg_sl ([.ref aR, .ref aX, .int (nI sz), .int tim]) ++ List.replicate (6 - (lg_sl ([.ref aR, .ref aX, .int (nI sz), .int tim])).length) Slot.unset).toArray = ls at hl ⊢
  have hl : lv_has ls 6 [(0, .ref aR), (1, .ref aX), (2, .int (nI sz)), (3, .int tim)] := hl
  have hRR := hok.1
  have hll := hok.2.1
  have hcap := hok.2.2.1
  have hgap := hok.gap (Nat.le_refl lo) hll (Nat.le_refl hi)
  refine lv_aload_n hx hb dX0_add_0 rfl (lv_at hl 0 rfl) ?_
  refine lv_aload_n hx hb dX0_add_1 rfl (lv_at hl 0 rfl) ?_
  refine va_get (D := (dC, dI)) (ci := 0) (v := .int (nI (lo % R))) (C := RX0) (T := TX0) (N := 8) hx hb hts hi_R hown hK hP 0 rfl rfl 4 (by decide) (hts (.fieldLink RX0 30 "PacketStore$Ring" "oldest" "I") (by decide +kernel)) (fun _ h9 => h9) rfl dX0_add_2 ?_
  refine lv_aload_n hx hb dX0_add_5 rfl (lv_at hl 0 rfl) ?_
  refine va_get (D := (dC, dI)) (ci := 0) (v := .int (nI (hi - lo))) (C := RX0) (T := TX0) (N := 8) hx hb hts hi_R hown hK hP 0 rfl rfl 5 (by decide) (hts (.fieldLink RX0 24 "PacketStore$Ring" "packets" "I") (by decide +kernel)) (fun _ h9 => h9) rfl dX0_add_6 ?_
  refine lv_iadd hx hb dX0_add_9 ?_
  refine zz_as (nI ((lo % R) + (hi - lo))) (nI_add _ _) ?_
  refine zz_callR (As := [.int (nI ((lo % R) + (hi - lo)))]) (rest := []) ⟨hx, hb, hml, hown, hts⟩ (c_R_wrapped l dC dI aR aB aS aT R (lo % R) (hi - lo) (off hi % R) (off hi - off lo) ((lo % R) + (hi - lo)) (by have := Nat.mod_lt lo (show 0 < R by omega); have := Nat.mod_lt (off hi) (show 0 < R by omega); omega) (by omega)) (cwV 1 hts gX0_add_X0_wrapped rfl rfl rfl (by decide +kernel) ⟨Nat.le_of_ble_eq_true rfl, Nat.le_of_ble_eq_true rfl⟩) (hP.sub [0] rfl) (hK.sub [] rfl) 0 rfl rfl rfl rfl hl.1 rfl (Nat.le_of_ble_eq_true rfl) dX0_add_10 ⟨Nat.zero_le _, Nat.zero_le _⟩ (fun r10 e10 => ?_)
  subst e10
  refine zz_as (nI (hi % R)) (by rw [Nat.mod_add_mod, show lo + (hi - lo) = hi by omega]) ?_
  refine lv_istore (lv' := [(4, .int (nI (hi % R))), (0, .ref aR), (1, .ref aX), (2, .int (nI sz)), (3, .int tim)]) hx hb dX0_add_13 hl (by decide) rfl (fun ls hl => ?_)
  refine lv_aload_n hx hb dX0_add_15 rfl (lv_at hl 1 rfl) ?_
  refine va_get (D := (dC, dI)) (ci := 0) (v := .ref aS) (C := RX0) (T := TX0) (N := 8) hx hb hts hi_R hown hK hP 0 rfl rfl 2 (by decide) (hts (.fieldLink RX0 17 "PacketStore$Ring" "starts" "[I") (by decide +kernel)) (fun _ h9 => h9) rfl dX0_add_16 ?_
  refine lv_iload hx hb dX0_add_19 (lv_at hl 0 rfl) ?_
  refine lv_aload_n hx hb dX0_add_21 rfl (lv_at hl 1 rfl) ?_
  refine va_get (D := (dC, dI)) (ci := 0) (v := .int (nI (off hi % R))) (C := RX0) (T := TX0) (N := 8) hx hb hts hi_R hown hK hP 0 rfl rfl 6 (by decide) (hts (.fieldLink RX0 40 "PacketStore$Ring" "end" "I") (by decide +kernel)) (fun _ h9 => h9) rfl dX0_add_22 ?_
  refine zz_iast hx hb hK hP hD hS 2 1 rfl rfl (j := hi % R) (x := ((nI (off hi % R)))) (Nat.mod_lt _ (by omega)) (by omega) dX0_add_25 (fun H locs hP hD hS => ?_)
  have hP : va_P (dC, dI) vwCl [(aR, .inr (0, [.int (nI R), .ref aB, .ref aS, .ref aT, .int (nI (lo % R)), .int (nI (hi - lo)), .int (nI (off hi % R)), .int (nI (off hi - off lo))])), (aB, .inl (cB, R, .inl Bf)), (aS, .inl (cS, R, .inl (upd Sf (hi % R) ((nI (off hi % R)))))), (aT, .inl (cT, R, .inl Tf)), (aX, .inl (cX, 512, .inl Xf))] H := hP
  have hD : va_D A [(aR, .inr (0, [.int (nI R), .ref aB, .ref aS, .ref aT, .int (nI (lo % R)), .int (nI (hi - lo)), .int (nI (off hi % R)), .int (nI (off hi - off lo))])), (aB, .inl (cB, R, .inl Bf)), (aS, .inl (cS, R, .inl (upd Sf (hi % R) ((nI (off hi % R)))))), (aT, .inl (cT, R, .inl Tf)), (aX, .inl (cX, 512, .inl Xf))] := hD
  refine lv_aload_n hx hb dX0_add_26 rfl (lv_at hl 1 rfl) ?_
  refine va_get (D := (dC, dI)) (ci := 0) (v := .ref aT) (C := RX0) (T := TX0) (N := 8) hx hb hts hi_R hown hK hP 0 rfl rfl 3 (by decide) (hts (.fieldLink RX0 21 "PacketStore$Ring" "times" "[I") (by decide +kernel)) (fun _ h9 => h9) rfl dX0_add_27 ?_
  refine lv_iload hx hb dX0_add_30 (lv_at hl 0 rfl) ?_
  refine lv_iload_n hx hb dX0_add_32 rfl (lv_at hl 4 rfl) ?_
  refine zz_iast hx hb hK hP hD hS 3 2 rfl rfl (j := hi % R) (x := tim) (Nat.mod_lt _ (by omega)) (by omega) dX0_add_33 (fun H locs hP hD hS => ?_)
  have hP : va_P (dC, dI) vwCl [(aR, .inr (0, [.int (nI R), .ref aB, .ref aS, .ref aT, .int (nI (lo % R)), .int (nI (hi - lo)), .int (nI (off hi % R)), .int (nI (off hi - off lo))])), (aB, .inl (cB, R, .inl Bf)), (aS, .inl (cS, R, .inl (upd Sf (hi % R) ((nI (off hi % R)))))), (aT, .inl (cT, R, .inl (upd Tf (hi % R) tim))), (aX, .inl (cX, 512, .inl Xf))] H := hP
  have hD : va_D A [(aR, .inr (0, [.int (nI R), .ref aB, .ref aS, .ref aT, .int (nI (lo % R)), .int (nI (hi - lo)), .int (nI (off hi % R)), .int (nI (off hi - off lo))])), (aB, .inl (cB, R, .inl Bf)), (aS, .inl (cS, R, .inl (upd Sf (hi % R) ((nI (off hi % R)))))), (aT, .inl (cT, R, .inl (upd Tf (hi % R) tim))), (aX, .inl (cX, 512, .inl Xf))] := hD
  refine lv_iconst (v := nI 0) hx hb dX0_add_34 (by decide) ?_
  refine lv_istore (lv' := [(5, .int (nI 0)), (4, .int (nI (hi % R))), (0, .ref aR), (1, .ref aX), (2, .int (nI sz)), (3, .int tim)]) hx hb dX0_add_35 hl (by decide) rfl (fun ls hl => ?_)
  refine zz_loop (σ := Nat × (Nat → Int32)) (fun n v H locs ls => (n + v.1 = sz + 1 ∧ v.1 ≤ sz ∧ (∀ q, off lo ≤ q → q < off hi → v.2 (q % R) = Bf (q % R)) ∧ ∀ t, t < v.1 → v.2 ((off hi + t) % R) = (tz t).toInt8.toInt32) ∧ va_P (dC, dI) vwCl [(aR, .inr (0, [.int (nI R), .ref aB, .ref aS, .ref aT, .int (nI (lo % R)), .int (nI (hi - lo)), .int (nI (off hi % R)), .int (nI (off hi - off lo))])), (aB, .inl (cB, R, .inl v.2)), (aS, .inl (cS, R, .inl (upd Sf (hi % R) (nI (off hi % R))))), (aT, .inl (cT, R, .inl (upd Tf (hi % R) tim))), (aX, .inl (cX, 512, .inl Xf))] H ∧ va_D A [(aR, .inr (0, [.int (nI R), .ref aB, .ref aS, .ref aT, .int (nI (lo % R)), .int (nI (hi - lo)), .int (nI (off hi % R)), .int (nI (off hi - off lo))])), (aB, .inl (cB, R, .inl v.2)), (aS, .inl (cS, R, .inl (upd Sf (hi % R) (nI (off hi % R))))), (aT, .inl (cT, R, .inl (upd Tf (hi % R) tim))), (aX, .inl (cX, 512, .inl Xf))] ∧ va_S A s.heap H locs ∧ lv_has ls 6 [(5, .int (nI v.1)), (0, .ref aR), (1, .ref aX), (2, .int (nI sz)), (3, .int tim)]) (fun v H locs ls h => ?_) (fun n v H locs ls h ih => ?_) (sz + 1) (0, Bf) _ _ _ ⟨⟨rfl, Nat.zero_le _, fun q _ _ => rfl, fun t h => absurd h (Nat.not_lt_zero t)⟩, hP, hD, hS, lv_sub hl [0, 2, 3, 4, 5] rfl⟩
  · obtain ⟨⟨h1, h2, -⟩, -⟩ := h
    omega
  obtain ⟨j, Bg⟩ := v
  obtain ⟨⟨hj1, hj2, hB1, hB2⟩, hP, hD, hS, hl⟩ := h
  dsimp only at hj1 hj2 hB1 hB2
  have hP : va_P (dC, dI) vwCl [(aR, .inr (0, [.int (nI R), .ref aB, .ref aS, .ref aT, .int (nI (lo % R)), .int (nI (hi - lo)), .int (nI (off hi % R)), .int (nI (off hi - off lo))])), (aB, .inl (cB, R, .inl Bg)), (aS, .inl (cS, R, .inl (upd Sf (hi % R) (nI (off hi % R))))), (aT, .inl (cT, R, .inl (upd Tf (hi % R) tim))), (aX, .inl (cX, 512, .inl Xf))] H := hP
  have hD : va_D A [(aR, .inr (0, [.int (nI R), .ref aB, .ref aS, .ref aT, .int (nI (lo % R)), .int (nI (hi - lo)), .int (nI (off hi % R)), .int (nI (off hi - off lo))])), (aB, .inl (cB, R, .inl Bg)), (aS, .inl (cS, R, .inl (upd Sf (hi % R) (nI (off hi % R))))), (aT, .inl (cT, R, .inl (upd Tf (hi % R) tim))), (aX, .inl (cX, 512, .inl Xf))] := hD
  have hl : lv_has ls 6 [(5, .int (nI j)), (0, .ref aR), (1, .ref aX), (2, .int (nI sz)), (3, .int tim)] := hl
  refine lv_iload hx hb dX0_add_37 (lv_at hl 0 rfl) ?_
  refine lv_iload_n hx hb dX0_add_39 rfl (lv_at hl 3 rfl) ?_
  refine zz_icmp_ge (a := j) (b := sz) (tgt := 69) hx hb dX0_add_40 (by decide) (by omega) (by omega) (fun c40 => ?_) (fun c40 => ?_)
  · refine lv_aload_n hx hb dX0_add_69 rfl (lv_at hl 1 rfl) ?_
    refine lv_aload_n hx hb dX0_add_70 rfl (lv_at hl 1 rfl) ?_
    refine lv_aload_n hx hb dX0_add_71 rfl (lv_at hl 1 rfl) ?_
    refine va_get (D := (dC, dI)) (ci := 0) (v := .int (nI (off hi % R))) (C := RX0) (T := TX0) (N := 8) hx hb hts hi_R hown hK hP 0 rfl rfl 6 (by decide) (hts (.fieldLink RX0 40 "PacketStore$Ring" "end" "I") (by decide +kernel)) (fun _ h9 => h9) rfl dX0_add_72 ?_
    refine lv_iload_n hx hb dX0_add_75 rfl (lv_at hl 3 rfl) ?_
    refine lv_iadd hx hb dX0_add_76 ?_
    refine zz_as (nI ((off hi % R) + sz)) (nI_add _ _) ?_
    refine zz_callR (As := [.int (nI ((off hi % R) + sz))]) (rest := [.ref aR]) ⟨hx, hb, hml, hown, hts⟩ (c_R_wrapped l dC dI aR aB aS aT R (lo % R) (hi - lo) (off hi % R) (off hi - off lo) ((off hi % R) + sz) (by have := Nat.mod_lt lo (show 0 < R by omega); have := Nat.mod_lt (off hi) (show 0 < R by omega); omega) (by omega)) (cwV 1 hts gX0_add_X0_wrapped rfl rfl rfl (by decide +kernel) ⟨Nat.le_of_ble_eq_true rfl, Nat.le_of_ble_eq_true rfl⟩) (hP.sub [0] rfl) (hK.sub [] rfl) 0 rfl rfl rfl rfl hl.1 rfl (Nat.le_of_ble_eq_true rfl) dX0_add_77 ⟨Nat.zero_le _, Nat.zero_le _⟩ (fun r77 e77 => ?_)
    subst e77
    refine zz_as (nI ((off hi + sz) % R)) (by rw [Nat.mod_add_mod]) ?_
    refine va_put (D := (dC, dI)) (ci := 0) (v := .int (nI ((off hi + sz) % R))) (ty := .int) (C := RX0) (T := TX0) (N := 8) hx hb hts hi_R tyX0 tyX0_ok nmX0 hown hK hP hD hS 0 rfl rfl 6 (by decide) (hts (.fieldLink RX0 40 "PacketStore$Ring" "end" "I") (by decide +kernel)) (fun _ h9 => h9) rfl (by decide +kernel) rfl rfl (Nat.le_of_ble_eq_true rfl) dX0_add_80 (fun H locs hP hD hS => ?_)
    have hP : va_P (dC, dI) vwCl [(aR, .inr (0, [.int (nI R), .ref aB, .ref aS, .ref aT, .int (nI (lo % R)), .int (nI (hi - lo)), .int (nI ((off hi + sz) % R)), .int (nI (off hi - off lo))])), (aB, .inl (cB, R, .inl Bg)), (aS, .inl (cS, R, .inl (upd Sf (hi % R) (nI (off hi % R))))), (aT, .inl (cT, R, .inl (upd Tf (hi % R) tim))), (aX, .inl (cX, 512, .inl Xf))] H := hP
    have hD : va_D A [(aR, .inr (0, [.int (nI R), .ref aB, .ref aS, .ref aT, .int (nI (lo % R)), .int (nI (hi - lo)), .int (nI ((off hi + sz) % R)), .int (nI (off hi - off lo))])), (aB, .inl (cB, R, .inl Bg)), (aS, .inl (cS, R, .inl (upd Sf (hi % R) (nI (off hi % R))))), (aT, .inl (cT, R, .inl (upd Tf (hi % R) tim))), (aX, .inl (cX, 512, .inl Xf))] := hD
    refine lv_aload_n hx hb dX0_add_83 rfl (lv_at hl 1 rfl) ?_
    refine lv_dup hx hb dX0_add_84 rfl ?_
    refine va_get (D := (dC, dI)) (ci := 0) (v := .int (nI (hi - lo))) (C := RX0) (T := TX0) (N := 8) hx hb hts hi_R hown hK hP 0 rfl rfl 5 (by decide) (hts (.fieldLink RX0 24 "PacketStore$Ring" "packets" "I") (by decide +kernel)) (fun _ h9 => h9) rfl dX0_add_85 ?_
    refine lv_iconst (v := nI 1) hx hb dX0_add_88 (by decide) ?_
    refine lv_iadd hx hb dX0_add_89 ?_
    refine zz_as (nI ((hi - lo) + 1)) (nI_add _ _) ?_
    refine zz_as (nI (hi + 1 - lo)) (congrArg nI (by omega)) ?_
    refine va_put (D := (dC, dI)) (ci := 0) (v := .int (nI (hi + 1 - lo))) (ty := .int) (C := RX0) (T := TX0) (N := 8) hx hb hts hi_R tyX0 tyX0_ok nmX0 hown hK hP hD hS 0 rfl rfl 5 (by decide) (hts (.fieldLink RX0 24 "PacketStore$Ring" "packets" "I") (by decide +kernel)) (fun _ h9 => h9) rfl (by decide +kernel) rfl rfl (Nat.le_of_ble_eq_true rfl) dX0_add_90 (fun H locs hP hD hS => ?_)
    have hP : va_P (dC, dI) vwCl [(aR, .inr (0, [.int (nI R), .ref aB, .ref aS, .ref aT, .int (nI (lo % R)), .int (nI (hi + 1 - lo)), .int (nI ((off hi + sz) % R)), .int (nI (off hi - off lo))])), (aB, .inl (cB, R, .inl Bg)), (aS, .inl (cS, R, .inl (upd Sf (hi % R) (nI (off hi % R))))), (aT, .inl (cT, R, .inl (upd Tf (hi % R) tim))), (aX, .inl (cX, 512, .inl Xf))] H := hP
    have hD : va_D A [(aR, .inr (0, [.int (nI R), .ref aB, .ref aS, .ref aT, .int (nI (lo % R)), .int (nI (hi + 1 - lo)), .int (nI ((off hi + sz) % R)), .int (nI (off hi - off lo))])), (aB, .inl (cB, R, .inl Bg)), (aS, .inl (cS, R, .inl (upd Sf (hi % R) (nI (off hi % R))))), (aT, .inl (cT, R, .inl (upd Tf (hi % R) tim))), (aX, .inl (cX, 512, .inl Xf))] := hD
    refine lv_aload_n hx hb dX0_add_93 rfl (lv_at hl 1 rfl) ?_
    refine lv_dup hx hb dX0_add_94 rfl ?_
    refine va_get (D := (dC, dI)) (ci := 0) (v := .int (nI (off hi - off lo))) (C := RX0) (T := TX0) (N := 8) hx hb hts hi_R hown hK hP 0 rfl rfl 7 (by decide) (hts (.fieldLink RX0 27 "PacketStore$Ring" "used" "I") (by decide +kernel)) (fun _ h9 => h9) rfl dX0_add_95 ?_
    refine lv_iload_n hx hb dX0_add_98 rfl (lv_at hl 3 rfl) ?_
    refine lv_iadd hx hb dX0_add_99 ?_
    refine zz_as (nI ((off hi - off lo) + sz)) (nI_add _ _) ?_
    refine zz_as (nI (off hi + sz - off lo)) (congrArg nI (by omega)) ?_
    refine va_put (D := (dC, dI)) (ci := 0) (v := .int (nI (off hi + sz - off lo))) (ty := .int) (C := RX0) (T := TX0) (N := 8) hx hb hts hi_R tyX0 tyX0_ok nmX0 hown hK hP hD hS 0 rfl rfl 7 (by decide) (hts (.fieldLink RX0 27 "PacketStore$Ring" "used" "I") (by decide +kernel)) (fun _ h9 => h9) rfl (by decide +kernel) rfl rfl (Nat.le_of_ble_eq_true rfl) dX0_add_100 (fun H locs hP hD hS => ?_)
    have hP : va_P (dC, dI) vwCl [(aR, .inr (0, [.int (nI R), .ref aB, .ref aS, .ref aT, .int (nI (lo % R)), .int (nI (hi + 1 - lo)), .int (nI ((off hi + sz) % R)), .int (nI (off hi + sz - off lo))])), (aB, .inl (cB, R, .inl Bg)), (aS, .inl (cS, R, .inl (upd Sf (hi % R) (nI (off hi % R))))), (aT, .inl (cT, R, .inl (upd Tf (hi % R) tim))), (aX, .inl (cX, 512, .inl Xf))] H := hP
    have hD : va_D A [(aR, .inr (0, [.int (nI R), .ref aB, .ref aS, .ref aT, .int (nI (lo % R)), .int (nI (hi + 1 - lo)), .int (nI ((off hi + sz) % R)), .int (nI (off hi + sz - off lo))])), (aB, .inl (cB, R, .inl Bg)), (aS, .inl (cS, R, .inl (upd Sf (hi % R) (nI (off hi % R))))), (aT, .inl (cT, R, .inl (upd Tf (hi % R) tim))), (aX, .inl (cX, 512, .inl Xf))] := hD
    exact W.vret hx hb hr (fun t ht hW => ⟨⟨Bg, rfl, ⟨hB1, fun t h => hB2 t (by omega)⟩, by rw [ht]; exact hP, va_K.moved hW.alike hK, hD⟩, hS.F ht⟩) hS.2.2 dX0_add_103
  · refine lv_aload_n hx hb dX0_add_43 rfl (lv_at hl 1 rfl) ?_
    refine va_get (D := (dC, dI)) (ci := 0) (v := .ref aB) (C := RX0) (T := TX0) (N := 8) hx hb hts hi_R hown hK hP 0 rfl rfl 1 (by decide) (hts (.fieldLink RX0 13 "PacketStore$Ring" "bytes" "[B") (by decide +kernel)) (fun _ h9 => h9) rfl dX0_add_44 ?_
    refine lv_aload_n hx hb dX0_add_47 rfl (lv_at hl 1 rfl) ?_
    refine lv_aload_n hx hb dX0_add_48 rfl (lv_at hl 1 rfl) ?_
    refine va_get (D := (dC, dI)) (ci := 0) (v := .int (nI (off hi % R))) (C := RX0) (T := TX0) (N := 8) hx hb hts hi_R hown hK hP 0 rfl rfl 6 (by decide) (hts (.fieldLink RX0 40 "PacketStore$Ring" "end" "I") (by decide +kernel)) (fun _ h9 => h9) rfl dX0_add_49 ?_
    refine lv_iload hx hb dX0_add_52 (lv_at hl 0 rfl) ?_
    refine lv_iadd hx hb dX0_add_54 ?_
    refine zz_as (nI ((off hi % R) + j)) (nI_add _ _) ?_
    refine zz_callR (As := [.int (nI ((off hi % R) + j))]) (rest := [.ref aB]) ⟨hx, hb, hml, hown, hts⟩ (c_R_wrapped l dC dI aR aB aS aT R (lo % R) (hi - lo) (off hi % R) (off hi - off lo) ((off hi % R) + j) (by have := Nat.mod_lt lo (show 0 < R by omega); have := Nat.mod_lt (off hi) (show 0 < R by omega); omega) (by omega)) (cwV 1 hts gX0_add_X0_wrapped rfl rfl rfl (by decide +kernel) ⟨Nat.le_of_ble_eq_true rfl, Nat.le_of_ble_eq_true rfl⟩) (hP.sub [0] rfl) (hK.sub [] rfl) 0 rfl rfl rfl rfl hl.1 rfl (Nat.le_of_ble_eq_true rfl) dX0_add_55 ⟨Nat.zero_le _, Nat.zero_le _⟩ (fun r55 e55 => ?_)
    subst e55
    refine zz_as (nI ((off hi + j) % R)) (by rw [Nat.mod_add_mod]) ?_
    refine lv_aload_n hx hb dX0_add_58 rfl (lv_at hl 2 rfl) ?_
    refine lv_iload hx hb dX0_add_59 (lv_at hl 0 rfl) ?_
    refine zz_bald hx hb hK hP 4 3 rfl rfl (j := j) (by omega) (by omega) dX0_add_61 ?_
    refine zz_bast hx hb hK hP hD hS 1 0 rfl rfl (j := (off hi + j) % R) (x := ((Xf j))) (Nat.mod_lt _ (by omega)) (by omega) dX0_add_62 (fun H locs hP hD hS => ?_)
    have hP : va_P (dC, dI) vwCl [(aR, .inr (0, [.int (nI R), .ref aB, .ref aS, .ref aT, .int (nI (lo % R)), .int (nI (hi - lo)), .int (nI (off hi % R)), .int (nI (off hi - off lo))])), (aB, .inl (cB, R, .inl (upd Bg ((off hi + j) % R) (((Xf j)).toInt8.toInt32)))), (aS, .inl (cS, R, .inl (upd Sf (hi % R) (nI (off hi % R))))), (aT, .inl (cT, R, .inl (upd Tf (hi % R) tim))), (aX, .inl (cX, 512, .inl Xf))] H := hP
    have hD : va_D A [(aR, .inr (0, [.int (nI R), .ref aB, .ref aS, .ref aT, .int (nI (lo % R)), .int (nI (hi - lo)), .int (nI (off hi % R)), .int (nI (off hi - off lo))])), (aB, .inl (cB, R, .inl (upd Bg ((off hi + j) % R) (((Xf j)).toInt8.toInt32)))), (aS, .inl (cS, R, .inl (upd Sf (hi % R) (nI (off hi % R))))), (aT, .inl (cT, R, .inl (upd Tf (hi % R) tim))), (aX, .inl (cX, 512, .inl Xf))] := hD
    refine lv_iinc (v := nI (j + 1)) (lv' := [(5, .int (nI (j + 1))), (0, .ref aR), (1, .ref aX), (2, .int (nI sz)), (3, .int tim)]) hx hb dX0_add_63 hl (k := 0) rfl (show nI j + 1 = nI (j + 1) from nI_1 _) (by decide) rfl (fun ls hl => ?_)
    refine lv_goto (tgt := 37) hx hb dX0_add_66 (by decide) ?_
    exact ih (j + 1, upd Bg ((off hi + j) % R) (((Xf j)).toInt8.toInt32)) _ _ _ ⟨⟨by show n + (j + 1) = sz + 1; omega, by show j + 1 ≤ sz; omega, zz_addB1 hB1 (by omega) (by omega), zz_addB2 (g := fun t => (tz t).toInt8.toInt32) hB2 (by rw [htx j (by omega), zz_i8]) (by omega)⟩, hP, hD, hS, lv_sub hl [0, 1, 2, 3, 4] rfl⟩
set_option maxHeartbeats 4000000 in
set_option maxRecDepth 100000 in
/-- Ring.dropOldest() -/
theorem c_R_dropOldest (l : Launch) (dC : Nat → ClassId) (dI : Nat → Nat → Nat) (aR aB aS aT R lo hi : Nat) (off : Nat → Nat) (cS : ClassId) (Sf : Nat → Int32) (hok : rg_ok R lo hi off) (hst : ∀ i, lo ≤ i → i < hi → Sf (i % R) = nI (off i % R)) (hlt : lo < hi) (hz : Nat) : Met l yX0_dropOldest wsX0_dropOldest ({ frames := 3, cells := 0, slots := 0, locals := 65 }) (va_Pc [.ref aR] (fun U => U.heap.size = hz ∧ va_P (dC, dI) vwCl [(aR, .inr (0, [.int (nI R), .ref aB, .ref aS, .ref aT, .int (nI (lo % R)), .int (nI (hi - lo)), .int (nI (off hi % R)), .int (nI (off hi - off lo))])), (aS, .inl (cS, R, .inl Sf))] U.heap ∧ va_K (dC, dI) vwCl [(cS, .int)] U ∧ va_D (fun _ => True) [(aR, .inr (0, [.int (nI R), .ref aB, .ref aS, .ref aT, .int (nI (lo % R)), .int (nI (hi - lo)), .int (nI (off hi % R)), .int (nI (off hi - off lo))])), (aS, .inl (cS, R, .inl Sf))])) (va_Qv (fun (u : Unit) => True) (fun u t => va_P (dC, dI) vwCl [(aR, .inr (0, [.int (nI R), .ref aB, .ref aS, .ref aT, .int (nI ((lo + 1) % R)), .int (nI (hi - (lo + 1))), .int (nI (off hi % R)), .int (nI (off hi - off (lo + 1)))])), (aS, .inl (cS, R, .inl Sf))] t.heap ∧ va_K (dC, dI) vwCl [(cS, .int)] t ∧ va_D (va_A [(aR, .inr (0, [.int (nI R), .ref aB, .ref aS, .ref aT, .int (nI (lo % R)), .int (nI (hi - lo)), .int (nI (off hi % R)), .int (nI (off hi - off lo))])), (aS, .inl (cS, R, .inl Sf))] hz) [(aR, .inr (0, [.int (nI R), .ref aB, .ref aS, .ref aT, .int (nI ((lo + 1) % R)), .int (nI (hi - (lo + 1))), .int (nI (off hi % R)), .int (nI (off hi - off (lo + 1)))])), (aS, .inl (cS, R, .inl Sf))]) (va_A [(aR, .inr (0, [.int (nI R), .ref aB, .ref aS, .ref aT, .int (nI (lo % R)), .int (nI (hi - lo)), .int (nI (off hi % R)), .int (nI (off hi - off lo))])), (aS, .inl (cS, R, .inl Sf))] hz)) 0 0 (va_A [(aR, .inr (0, [.int (nI R), .ref aB, .ref aS, .ref aT, .int (nI (lo % R)), .int (nI (hi - lo)), .int (nI (off hi % R)), .int (nI (off hi - off lo))])), (aS, .inl (cS, R, .inl Sf))] hz) := by
  refine Met.ofW (cc := cX0_dropOldest) (maxL := 1) (ret := none) (by decide) rfl ?_
  intro p e s m args below meth c s₁ B hml hv
  obtain ⟨rfl, hsz, hP, hK, hD0⟩ := hv
  have hx := B.exec
  have hb := B.bytes
  have hr := B.returns
  have hts := atoms_spec (ws := wsX0_dropOldest) B.pre
  have hown : s.vm.findClass RX0 = some m.cls := findClass_of_methodNamed B.named
  have hlocks := B.notSynchronized
  have hi_R : ∀ w ∈ u_ws RX0 TX0 8, w ∈ wsX0_dropOldest := by decide +kernel
  subst hsz
  have hD := hD0.self (sz := s.heap.size)
  generalize hAe : va_A [(aR, .inr (0, [.int (nI R), .ref aB, .ref aS, .ref aT, .int (nI (lo % R)), .int (nI (hi - lo)), .int (nI (off hi % R)), .int (nI (off hi - off lo))])), (aS, .inl (cS, R, .inl Sf))] s.heap.size = A at hD ⊢
  have hA : ∀ q : Nat, s.heap.size ≤ q → A q := fun q h => by rw [← hAe]; exact Or.inr h
  have hS : va_S A s.heap s.heap [] := va_S.rf
  have hP : va_P (dC, dI) vwCl [(aR, .inr (0, [.int (nI R), .ref aB, .ref aS, .ref aT, .int (nI (lo % R)), .int (nI (hi - lo)), .int (nI (off hi % R)), .int (nI (off hi - off lo))])), (aS, .inl (cS, R, .inl Sf))] s.heap := hP
  have hl := lv_entry ([.ref aR]) (n := 1) (Nat.le_of_ble_eq_true rfl)
  rw [lg_entry_eq]
  generalize (lg_sl ([.ref aR]) ++ List.replicate (1 - (lg_sl ([.ref aR])).length) Slot.unset).toArray = ls at hl ⊢
  have hl : lv_has ls 1 [(0, .ref aR)] := hl
  have hRR := hok.1
  have hll := hok.2.1
  have hcap := hok.2.2.1
  have hgap := hok.gap (Nat.le_refl lo) hll (Nat.le_refl hi)
  have hk1 : off lo < off (lo + 1) := hok.2.2.2 lo (Nat.le_refl lo) hlt
  have hk3 : off (lo + 1) + (hi - (lo + 1)) ≤ off hi := hok.gap (by omega) (by omega) (Nat.le_refl hi)
  refine lv_aload_n hx hb dX0_dropOldest_0 rfl (lv_at hl 0 rfl) ?_
  refine lv_dup hx hb dX0_dropOldest_1 rfl ?_
  refine va_get (D := (dC, dI)) (ci := 0) (v := .int (nI (off hi - off lo))) (C := RX0) (T := TX0) (N := 8) hx hb hts hi_R hown hK hP 0 rfl rfl 7 (by decide) (hts (.fieldLink RX0 27 "PacketStore$Ring" "used" "I") (by decide +kernel)) (fun _ h9 => h9) rfl dX0_dropOldest_2 ?_
  refine lv_aload_n hx hb dX0_dropOldest_5 rfl (lv_at hl 0 rfl) ?_
  refine lv_iconst (v := nI 0) hx hb dX0_dropOldest_6 (by decide) ?_
  refine zz_callR (As := [.int (nI 0)]) (rest := [.int (nI (off hi - off lo)), .ref aR]) ⟨hx, hb, hml, hown, hts⟩ (c_R_sizeOf l dC dI aR aB aS aT R lo hi off (off hi - off lo) cS Sf 0 hok hst (by omega)) (cwV 1 hts gX0_dropOldest_X0_sizeOf rfl rfl rfl (by decide +kernel) ⟨Nat.le_of_ble_eq_true rfl, Nat.le_of_ble_eq_true rfl⟩) (hP.sub [0, 1] rfl) (hK.sub [0] rfl) 0 rfl rfl rfl rfl hl.1 rfl (Nat.le_of_ble_eq_true rfl) dX0_dropOldest_7 ⟨Nat.zero_le _, Nat.zero_le _⟩ (fun r7 e7 => ?_)
  subst e7
  refine zz_as (nI (off (lo + 1) - off lo)) rfl ?_
  refine lv_isub hx hb dX0_dropOldest_10 ?_
  refine zz_as (nI ((off hi - off lo) - (off (lo + 1) - off lo))) (pk_sub (by omega)) ?_
  refine zz_as (nI (off hi - off (lo + 1))) (congrArg nI (by omega)) ?_
  refine va_put (D := (dC, dI)) (ci := 0) (v := .int (nI (off hi - off (lo + 1)))) (ty := .int) (C := RX0) (T := TX0) (N := 8) hx hb hts hi_R tyX0 tyX0_ok nmX0 hown hK hP hD hS 0 rfl rfl 7 (by decide) (hts (.fieldLink RX0 27 "PacketStore$Ring" "used" "I") (by decide +kernel)) (fun _ h9 => h9) rfl (by decide +kernel) rfl rfl (Nat.le_of_ble_eq_true rfl) dX0_dropOldest_11 (fun H locs hP hD hS => ?_)
  have hP : va_P (dC, dI) vwCl [(aR, .inr (0, [.int (nI R), .ref aB, .ref aS, .ref aT, .int (nI (lo % R)), .int (nI (hi - lo)), .int (nI (off hi % R)), .int (nI (off hi - off (lo + 1)))])), (aS, .inl (cS, R, .inl Sf))] H := hP
  have hD : va_D A [(aR, .inr (0, [.int (nI R), .ref aB, .ref aS, .ref aT, .int (nI (lo % R)), .int (nI (hi - lo)), .int (nI (off hi % R)), .int (nI (off hi - off (lo + 1)))])), (aS, .inl (cS, R, .inl Sf))] := hD
  refine lv_aload_n hx hb dX0_dropOldest_14 rfl (lv_at hl 0 rfl) ?_
  refine lv_aload_n hx hb dX0_dropOldest_15 rfl (lv_at hl 0 rfl) ?_
  refine lv_aload_n hx hb dX0_dropOldest_16 rfl (lv_at hl 0 rfl) ?_
  refine va_get (D := (dC, dI)) (ci := 0) (v := .int (nI (lo % R))) (C := RX0) (T := TX0) (N := 8) hx hb hts hi_R hown hK hP 0 rfl rfl 4 (by decide) (hts (.fieldLink RX0 30 "PacketStore$Ring" "oldest" "I") (by decide +kernel)) (fun _ h9 => h9) rfl dX0_dropOldest_17 ?_
  refine lv_iconst (v := nI 1) hx hb dX0_dropOldest_20 (by decide) ?_
  refine lv_iadd hx hb dX0_dropOldest_21 ?_
  refine zz_as (nI ((lo % R) + 1)) (nI_add _ _) ?_
  refine zz_callR (As := [.int (nI ((lo % R) + 1))]) (rest := [.ref aR]) ⟨hx, hb, hml, hown, hts⟩ (c_R_wrapped l dC dI aR aB aS aT R (lo % R) (hi - lo) (off hi % R) (off hi - off (lo + 1)) ((lo % R) + 1) (by have := Nat.mod_lt lo (show 0 < R by omega); omega) (by omega)) (cwV 1 hts gX0_dropOldest_X0_wrapped rfl rfl rfl (by decide +kernel) ⟨Nat.le_of_ble_eq_true rfl, Nat.le_of_ble_eq_true rfl⟩) (hP.sub [0] rfl) (hK.sub [] rfl) 0 rfl rfl rfl rfl hl.1 rfl (Nat.le_of_ble_eq_true rfl) dX0_dropOldest_22 ⟨Nat.zero_le _, Nat.zero_le _⟩ (fun r22 e22 => ?_)
  subst e22
  refine zz_as (nI ((lo + 1) % R)) (by rw [Nat.mod_add_mod]) ?_
  refine va_put (D := (dC, dI)) (ci := 0) (v := .int (nI ((lo + 1) % R))) (ty := .int) (C := RX0) (T := TX0) (N := 8) hx hb hts hi_R tyX0 tyX0_ok nmX0 hown hK hP hD hS 0 rfl rfl 4 (by decide) (hts (.fieldLink RX0 30 "PacketStore$Ring" "oldest" "I") (by decide +kernel)) (fun _ h9 => h9) rfl (by decide +kernel) rfl rfl (Nat.le_of_ble_eq_true rfl) dX0_dropOldest_25 (fun H locs hP hD hS => ?_)
  have hP : va_P (dC, dI) vwCl [(aR, .inr (0, [.int (nI R), .ref aB, .ref aS, .ref aT, .int (nI ((lo + 1) % R)), .int (nI (hi - lo)), .int (nI (off hi % R)), .int (nI (off hi - off (lo + 1)))])), (aS, .inl (cS, R, .inl Sf))] H := hP
  have hD : va_D A [(aR, .inr (0, [.int (nI R), .ref aB, .ref aS, .ref aT, .int (nI ((lo + 1) % R)), .int (nI (hi - lo)), .int (nI (off hi % R)), .int (nI (off hi - off (lo + 1)))])), (aS, .inl (cS, R, .inl Sf))] := hD
  refine lv_aload_n hx hb dX0_dropOldest_28 rfl (lv_at hl 0 rfl) ?_
  refine lv_dup hx hb dX0_dropOldest_29 rfl ?_
  refine va_get (D := (dC, dI)) (ci := 0) (v := .int (nI (hi - lo))) (C := RX0) (T := TX0) (N := 8) hx hb hts hi_R hown hK hP 0 rfl rfl 5 (by decide) (hts (.fieldLink RX0 24 "PacketStore$Ring" "packets" "I") (by decide +kernel)) (fun _ h9 => h9) rfl dX0_dropOldest_30 ?_
  refine lv_iconst (v := nI 1) hx hb dX0_dropOldest_33 (by decide) ?_
  refine lv_isub hx hb dX0_dropOldest_34 ?_
  refine zz_as (nI ((hi - lo) - 1)) (pk_sub (by omega)) ?_
  refine zz_as (nI (hi - (lo + 1))) (congrArg nI (by omega)) ?_
  refine va_put (D := (dC, dI)) (ci := 0) (v := .int (nI (hi - (lo + 1)))) (ty := .int) (C := RX0) (T := TX0) (N := 8) hx hb hts hi_R tyX0 tyX0_ok nmX0 hown hK hP hD hS 0 rfl rfl 5 (by decide) (hts (.fieldLink RX0 24 "PacketStore$Ring" "packets" "I") (by decide +kernel)) (fun _ h9 => h9) rfl (by decide +kernel) rfl rfl (Nat.le_of_ble_eq_true rfl) dX0_dropOldest_35 (fun H locs hP hD hS => ?_)
  have hP : va_P (dC, dI) vwCl [(aR, .inr (0, [.int (nI R), .ref aB, .ref aS, .ref aT, .int (nI ((lo + 1) % R)), .int (nI (hi - (lo + 1))), .int (nI (off hi % R)), .int (nI (off hi - off (lo + 1)))])), (aS, .inl (cS, R, .inl Sf))] H := hP
  have hD : va_D A [(aR, .inr (0, [.int (nI R), .ref aB, .ref aS, .ref aT, .int (nI ((lo + 1) % R)), .int (nI (hi - (lo + 1))), .int (nI (off hi % R)), .int (nI (off hi - off (lo + 1)))])), (aS, .inl (cS, R, .inl Sf))] := hD
  exact W.vret hx hb hr (fun t ht hW => ⟨⟨(), rfl, trivial, by rw [ht]; exact hP, va_K.moved hW.alike hK, hD⟩, hS.F ht⟩) hS.2.2 dX0_dropOldest_38
