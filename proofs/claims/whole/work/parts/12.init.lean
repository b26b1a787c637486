set_option maxHeartbeats 4000000 in
set_option maxRecDepth 100000 in
/-- PacketStore$Ring: a new one -/
theorem c_R_init (l : Launch) (dC : Nat → ClassId) (dI : Nat → Nat → Nat) (aR R : Nat) (hR : 64 ≤ R ∧ R ≤ 16384) (hz : Nat) : Met l yX0_init wsX0_init ({ frames := 1, cells := 3, slots := 49152, locals := 16 }) (va_Pc [.ref aR, .int (nI R)] (fun U => U.heap.size = hz ∧ va_P (dC, dI) vwCl [(aR, .inr (0, [.int 0, .null, .null, .null, .int 0, .int 0, .int 0, .int 0]))] U.heap ∧ va_K (dC, dI) vwCl [] U ∧ va_D (fun _ => True) [(aR, .inr (0, [.int 0, .null, .null, .null, .int 0, .int 0, .int 0, .int 0]))])) (va_Qv (fun (u : Unit) => True) (fun u t => ∃ (aB aS aT : Nat) (cB cS cT : ClassId), va_P (dC, dI) vwCl [(aR, .inr (0, [.int (nI R), .ref aB, .ref aS, .ref aT, .int 0, .int 0, .int 0, .int 0])), (aB, .inl (cB, R, .inl (fun _ => 0))), (aS, .inl (cS, R, .inl (fun _ => 0))), (aT, .inl (cT, R, .inl (fun _ => 0)))] t.heap ∧ va_K (dC, dI) vwCl [(cB, .byte), (cS, .int), (cT, .int)] t ∧ va_D (va_A [(aR, .inr (0, [.int 0, .null, .null, .null, .int 0, .int 0, .int 0, .int 0]))] hz) [(aR, .inr (0, [.int (nI R), .ref aB, .ref aS, .ref aT, .int 0, .int 0, .int 0, .int 0])), (aB, .inl (cB, R, .inl (fun _ => 0))), (aS, .inl (cS, R, .inl (fun _ => 0))), (aT, .inl (cT, R, .inl (fun _ => 0)))]) (va_A [(aR, .inr (0, [.int 0, .null, .null, .null, .int 0, .int 0, .int 0, .int 0]))] hz)) 3 49152 (va_A [(aR, .inr (0, [.int 0, .null, .null, .null, .int 0, .int 0, .int 0, .int 0]))] hz) := by
  refine Met.ofW (cc := cX0_init) (maxL := 2) (ret := none) (by decide) rfl ?_
  intro p e s m args below meth c s₁ B hml hv
  obtain ⟨rfl, hsz, hP, hK, hD0⟩ := hv
  have hx := B.exec
  have hb := B.bytes
  have hr := B.returns
  have hts := atoms_spec (ws := wsX0_init) B.pre
  have hown : s.vm.findClass RX0 = some m.cls := findClass_of_methodNamed B.named
  have hlocks := B.notSynchronized
  have hin : meth.name = "<init>" := (name_of_methodNamed B.named B.method).1
  have hi_R : ∀ w ∈ u_ws RX0 TX0 8, w ∈ wsX0_init := by decide +kernel
  subst hsz
  have hD := hD0.self (sz := s.heap.size)
  generalize hAe : va_A [(aR, .inr (0, [.int 0, .null, .null, .null, .int 0, .int 0, .int 0, .int 0]))] s.heap.size = A at hD ⊢
  have hA : ∀ q : Nat, s.heap.size ≤ q → A q := fun q h => by rw [← hAe]; exact Or.inr h
  have hS : va_S A s.heap s.heap [] := va_S.rf
  have hP : va_P (dC, dI) vwCl [(aR, .inr (0, [.int 0, .null, .null, .null, .int 0, .int 0, .int 0, .int 0]))] s.heap := hP
  have hl := lv_entry ([.ref aR, .int (nI R)]) (n := 2) (Nat.le_of_ble_eq_true rfl)
  rw [lg_entry_eq]
  generalize (lg_sl ([.ref aR, .int (nI R)]) ++ List.replicate (2 - (lg_sl ([.ref aR, .int (nI R)])).length) Slot.unset).toArray = ls at hl ⊢
  have hl : lv_has ls 2 [(0, .ref aR), (1, .int (nI R))] := hl
  refine lv_aload_n hx hb dX0_init_0 rfl (lv_at hl 0 rfl) ?_
  refine W.objInit hx hb hown (hts (.methodLink RX0 1 objectInit) (by decide +kernel)) (hts (.instanceMethod objectInit) (by decide +kernel)) (hts (.code objectInit ⟨#[0xb1]⟩ 1 none) (by decide +kernel)) rfl (by rw [hml]; exact hl.1) rfl dX0_init_1 (Nat.le_of_ble_eq_true rfl) (Nat.le_of_ble_eq_true rfl) ?_
  refine W.eq (g2 := F0 m 4 ls []) rfl ?_
  refine lv_aload_n hx hb dX0_init_4 rfl (lv_at hl 0 rfl) ?_
  refine lv_iload_n hx hb dX0_init_5 rfl (lv_at hl 1 rfl) ?_
  refine va_putF (D := (dC, dI)) (ci := 0) (v := .int (nI R)) (ty := .int) (C := RX0) (T := TX0) (N := 8) hx hb hts hi_R tyX0 tyX0_ok nmX0 hown hK hP hD hS 0 rfl rfl 0 (by decide) (hts (.fieldLink RX0 7 "PacketStore$Ring" "room" "I") (by decide +kernel)) (fun _ h9 => h9) rfl hin rfl (by decide +kernel) rfl rfl (Nat.le_of_ble_eq_true rfl) dX0_init_6 (fun H locs hP hD hS => ?_)
  have hP : va_P (dC, dI) vwCl [(aR, .inr (0, [.int (nI R), .null, .null, .null, .int 0, .int 0, .int 0, .int 0]))] H := hP
  have hD : va_D A [(aR, .inr (0, [.int (nI R), .null, .null, .null, .int 0, .int 0, .int 0, .int 0]))] := hD
  refine lv_aload_n hx hb dX0_init_9 rfl (lv_at hl 0 rfl) ?_
  refine lv_iload_n hx hb dX0_init_10 rfl (lv_at hl 1 rfl) ?_
  refine va_newa (atype := .byte) hx hb (hts (.arrayClass .byte) (by decide +kernel)) rfl hK hP hD hS hA (N' := R) (a0 := (R, .inl (fun _ => 0))) (fun _ => rfl) (nI_pos (by omega)) (nI_clamp (by omega)) (by show R * 1 ≤ 536870912; omega) (Nat.le_of_ble_eq_true rfl) (by show 0 + R ≤ 49152; omega) dX0_init_11 (fun aB cB H hK hP hD hS => ?_)
  have hP : va_P (dC, dI) vwCl [(aR, .inr (0, [.int (nI R), .null, .null, .null, .int 0, .int 0, .int 0, .int 0])), (aB, .inl (cB, R, .inl (fun _ => 0)))] H := hP
  have hD : va_D A [(aR, .inr (0, [.int (nI R), .null, .null, .null, .int 0, .int 0, .int 0, .int 0])), (aB, .inl (cB, R, .inl (fun _ => 0)))] := hD
  have hK : va_K (dC, dI) vwCl [(cB, .byte)] s := hK
  refine W.widen (k := 1) (n := 16384) (by omega) (by omega) ?_
  refine va_putF (D := (dC, dI)) (ci := 0) (v := .ref aB) (ty := .array .byte) (C := RX0) (T := TX0) (N := 8) hx hb hts hi_R tyX0 tyX0_ok nmX0 hown hK hP hD hS 0 rfl rfl 1 (by decide) (hts (.fieldLink RX0 13 "PacketStore$Ring" "bytes" "[B") (by decide +kernel)) (fun _ h9 => h9) rfl hin rfl (by decide +kernel) rfl rfl (Nat.le_of_ble_eq_true rfl) dX0_init_13 (fun H locs hP hD hS => ?_)
  have hP : va_P (dC, dI) vwCl [(aR, .inr (0, [.int (nI R), .ref aB, .null, .null, .int 0, .int 0, .int 0, .int 0])), (aB, .inl (cB, R, .inl (fun _ => 0)))] H := hP
  have hD : va_D A [(aR, .inr (0, [.int (nI R), .ref aB, .null, .null, .int 0, .int 0, .int 0, .int 0])), (aB, .inl (cB, R, .inl (fun _ => 0)))] := hD
  refine lv_aload_n hx hb dX0_init_16 rfl (lv_at hl 0 rfl) ?_
  refine lv_iload_n hx hb dX0_init_17 rfl (lv_at hl 1 rfl) ?_
  refine va_newa (atype := .int) hx hb (hts (.arrayClass .int) (by decide +kernel)) rfl hK hP hD hS hA (N' := R) (a0 := (R, .inl (fun _ => 0))) (fun _ => rfl) (nI_pos (by omega)) (nI_clamp (by omega)) (by show R * 4 ≤ 536870912; omega) (Nat.le_of_ble_eq_true rfl) (by show 16384 + R ≤ 49152; omega) dX0_init_18 (fun aS cS H hK hP hD hS => ?_)
  have hP : va_P (dC, dI) vwCl [(aR, .inr (0, [.int (nI R), .ref aB, .null, .null, .int 0, .int 0, .int 0, .int 0])), (aB, .inl (cB, R, .inl (fun _ => 0))), (aS, .inl (cS, R, .inl (fun _ => 0)))] H := hP
  have hD : va_D A [(aR, .inr (0, [.int (nI R), .ref aB, .null, .null, .int 0, .int 0, .int 0, .int 0])), (aB, .inl (cB, R, .inl (fun _ => 0))), (aS, .inl (cS, R, .inl (fun _ => 0)))] := hD
  have hK : va_K (dC, dI) vwCl [(cB, .byte), (cS, .int)] s := hK
  refine W.widen (k := 2) (n := 32768) (by omega) (by omega) ?_
  refine va_putF (D := (dC, dI)) (ci := 0) (v := .ref aS) (ty := .array .int) (C := RX0) (T := TX0) (N := 8) hx hb hts hi_R tyX0 tyX0_ok nmX0 hown hK hP hD hS 0 rfl rfl 2 (by decide) (hts (.fieldLink RX0 17 "PacketStore$Ring" "starts" "[I") (by decide +kernel)) (fun _ h9 => h9) rfl hin rfl (by decide +kernel) rfl rfl (Nat.le_of_ble_eq_true rfl) dX0_init_20 (fun H locs hP hD hS => ?_)
  have hP : va_P (dC, dI) vwCl [(aR, .inr (0, [.int (nI R), .ref aB, .ref aS, .null, .int 0, .int 0, .int 0, .int 0])), (aB, .inl (cB, R, .inl (fun _ => 0))), (aS, .inl (cS, R, .inl (fun _ => 0)))] H := hP
  have hD : va_D A [(aR, .inr (0, [.int (nI R), .ref aB, .ref aS, .null, .int 0, .int 0, .int 0, .int 0])), (aB, .inl (cB, R, .inl (fun _ => 0))), (aS, .inl (cS, R, .inl (fun _ => 0)))] := hD
  refine lv_aload_n hx hb dX0_init_23 rfl (lv_at hl 0 rfl) ?_
  refine lv_iload_n hx hb dX0_init_24 rfl (lv_at hl 1 rfl) ?_
  refine va_newa (atype := .int) hx hb (hts (.arrayClass .int) (by decide +kernel)) rfl hK hP hD hS hA (N' := R) (a0 := (R, .inl (fun _ => 0))) (fun _ => rfl) (nI_pos (by omega)) (nI_clamp (by omega)) (by show R * 4 ≤ 536870912; omega) (Nat.le_of_ble_eq_true rfl) (by show 32768 + R ≤ 49152; omega) dX0_init_25 (fun aT cT H hK hP hD hS => ?_)
  have hP : va_P (dC, dI) vwCl [(aR, .inr (0, [.int (nI R), .ref aB, .ref aS, .null, .int 0, .int 0, .int 0, .int 0])), (aB, .inl (cB, R, .inl (fun _ => 0))), (aS, .inl (cS, R, .inl (fun _ => 0))), (aT, .inl (cT, R, .inl (fun _ => 0)))] H := hP
  have hD : va_D A [(aR, .inr (0, [.int (nI R), .ref aB, .ref aS, .null, .int 0, .int 0, .int 0, .int 0])), (aB, .inl (cB, R, .inl (fun _ => 0))), (aS, .inl (cS, R, .inl (fun _ => 0))), (aT, .inl (cT, R, .inl (fun _ => 0)))] := hD
  have hK : va_K (dC, dI) vwCl [(cB, .byte), (cS, .int), (cT, .int)] s := hK
  refine W.widen (k := 3) (n := 49152) (by omega) (by omega) ?_
  refine va_putF (D := (dC, dI)) (ci := 0) (v := .ref aT) (ty := .array .int) (C := RX0) (T := TX0) (N := 8) hx hb hts hi_R tyX0 tyX0_ok nmX0 hown hK hP hD hS 0 rfl rfl 3 (by decide) (hts (.fieldLink RX0 21 "PacketStore$Ring" "times" "[I") (by decide +kernel)) (fun _ h9 => h9) rfl hin rfl (by decide +kernel) rfl rfl (Nat.le_of_ble_eq_true rfl) dX0_init_27 (fun H locs hP hD hS => ?_)
  have hP : va_P (dC, dI) vwCl [(aR, .inr (0, [.int (nI R), .ref aB, .ref aS, .ref aT, .int 0, .int 0, .int 0, .int 0])), (aB, .inl (cB, R, .inl (fun _ => 0))), (aS, .inl (cS, R, .inl (fun _ => 0))), (aT, .inl (cT, R, .inl (fun _ => 0)))] H := hP
  have hD : va_D A [(aR, .inr (0, [.int (nI R), .ref aB, .ref aS, .ref aT, .int 0, .int 0, .int 0, .int 0])), (aB, .inl (cB, R, .inl (fun _ => 0))), (aS, .inl (cS, R, .inl (fun _ => 0))), (aT, .inl (cT, R, .inl (fun _ => 0)))] := hD
  exact W.vret hx hb hr (fun t ht hW => ⟨⟨(), rfl, trivial, aB, aS, aT, cB, cS, cT, by rw [ht]; exact hP, va_K.moved hW.alike hK, hD⟩, hS.F ht⟩) hS.2.2 dX0_init_30
set_option maxHeartbeats 4000000 in
set_option maxRecDepth 100000 in
/-- PacketStore: a new one -/
theorem c_P_init (l : Launch) (dC : Nat → ClassId) (dI : Nat → Nat → Nat) (aP : Nat) (room : Int32)  (hz : Nat) : Met l yX1_init wsX1_init ({ frames := 2, cells := 6, slots := 50184, locals := 37 }) (va_Pc [.ref aP, .int room] (fun U => U.heap.size = hz ∧ va_P (dC, dI) vwCl [(aP, .inr (1, [.null, .null, .int 0, .null, .int 0, .int 0, .int 0, .int 0, .int 0, .int 0, .int 0, .int 0]))] U.heap ∧ va_K (dC, dI) vwCl [] U ∧ va_D (fun _ => True) [(aP, .inr (1, [.null, .null, .int 0, .null, .int 0, .int 0, .int 0, .int 0, .int 0, .int 0, .int 0, .int 0]))])) (va_Qv (fun (u : Nat) => u = md_room room ∧ 64 ≤ u ∧ u ≤ 16384) (fun u t => ∃ (aR aB aS aT aX aO : Nat) (cB cS cT cX cO : ClassId), va_P (dC, dI) vwCl [(aP, .inr (1, [.ref aR, .ref aX, .int 0, .ref aO, .int 0, .int 0, .int 0, .int 0, .int 0, .int 0, .int 0, .int 0])), (aR, .inr (0, [.int (nI u), .ref aB, .ref aS, .ref aT, .int 0, .int 0, .int 0, .int 0])), (aB, .inl (cB, u, .inl (fun _ => 0))), (aS, .inl (cS, u, .inl (fun _ => 0))), (aT, .inl (cT, u, .inl (fun _ => 0))), (aX, .inl (cX, 512, .inl (fun _ => 0))), (aO, .inl (cO, 512, .inl (fun _ => 0)))] t.heap ∧ va_K (dC, dI) vwCl [(cB, .byte), (cS, .int), (cT, .int), (cX, .byte), (cO, .byte)] t ∧ va_D (va_A [(aP, .inr (1, [.null, .null, .int 0, .null, .int 0, .int 0, .int 0, .int 0, .int 0, .int 0, .int 0, .int 0]))] hz) [(aP, .inr (1, [.ref aR, .ref aX, .int 0, .ref aO, .int 0, .int 0, .int 0, .int 0, .int 0, .int 0, .int 0, .int 0])), (aR, .inr (0, [.int (nI u), .ref aB, .ref aS, .ref aT, .int 0, .int 0, .int 0, .int 0])), (aB, .inl (cB, u, .inl (fun _ => 0))), (aS, .inl (cS, u, .inl (fun _ => 0))), (aT, .inl (cT, u, .inl (fun _ => 0))), (aX, .inl (cX, 512, .inl (fun _ => 0))), (aO, .inl (cO, 512, .inl (fun _ => 0)))]) (va_A [(aP, .inr (1, [.null, .null, .int 0, .null, .int 0, .int 0, .int 0, .int 0, .int 0, .int 0, .int 0, .int 0]))] hz)) 6 50184 (va_A [(aP, .inr (1, [.null, .null, .int 0, .null, .int 0, .int 0, .int 0, .int 0, .int 0, .int 0, .int 0, .int 0]))] hz) := by
  refine Met.ofW (cc := cX1_init) (maxL := 2) (ret := none) (by decide) rfl ?_
  intro p e s m args below meth c s₁ B hml hv
  obtain ⟨rfl, hsz, hP, hK, hD0⟩ := hv
  have hx := B.exec
  have hb := B.bytes
  have hr := B.returns
  have hts := atoms_spec (ws := wsX1_init) B.pre
  have hown : s.vm.findClass RX1 = some m.cls := findClass_of_methodNamed B.named
  have hlocks := B.notSynchronized
  have hin : meth.name = "<init>" := (name_of_methodNamed B.named B.method).1
  have hi_R : ∀ w ∈ u_ws RX0 TX0 8, w ∈ wsX1_init := by decide +kernel
  have hi_P : ∀ w ∈ u_ws RX1 TX1 12, w ∈ wsX1_init := by decide +kernel
  subst hsz
  have hD := hD0.self (sz := s.heap.size)
  generalize hAe : va_A [(aP, .inr (1, [.null, .null, .int 0, .null, .int 0, .int 0, .int 0, .int 0, .int 0, .int 0, .int 0, .int 0]))] s.heap.size = A at hD ⊢
  have hA : ∀ q : Nat, s.heap.size ≤ q → A q := fun q h => by rw [← hAe]; exact Or.inr h
  have hS : va_S A s.heap s.heap [] := va_S.rf
  have hP : va_P (dC, dI) vwCl [(aP, .inr (1, [.null, .null, .int 0, .null, .int 0, .int 0, .int 0, .int 0, .int 0, .int 0, .int 0, .int 0]))] s.heap := hP
  have hl := lv_entry ([.ref aP, .int room]) (n := 2) (Nat.le_of_ble_eq_true rfl)
  rw [lg_entry_eq]
  generalize (lg_sl ([.ref aP, .int room]) ++ List.replicate (2 - (lg_sl ([.ref aP, .int room])).length) Slot.unset).toArray = ls at hl ⊢
  have hl : lv_has ls 2 [(0, .ref aP), (1, .int room)] := hl
  refine lv_aload_n hx hb dX1_init_0 rfl (lv_at hl 0 rfl) ?_
  refine W.objInit hx hb hown (hts (.methodLink RX1 1 objectInit) (by decide +kernel)) (hts (.instanceMethod objectInit) (by decide +kernel)) (hts (.code objectInit ⟨#[0xb1]⟩ 1 none) (by decide +kernel)) rfl (by rw [hml]; exact hl.1) rfl dX1_init_1 (Nat.le_of_ble_eq_true rfl) (Nat.le_of_ble_eq_true rfl) ?_
  refine W.eq (g2 := F0 m 4 ls []) rfl ?_
  refine lv_aload_n hx hb dX1_init_4 rfl (lv_at hl 0 rfl) ?_
  refine va_new (ci := 0) (fs := [.int 0, .null, .null, .null, .int 0, .int 0, .int 0, .int 0]) (C := RX0) (T := TX0) (N := 8) hx hb hts hi_R tyX0 tyX0_ok hown (hts (.classLink RX1 7 RX0) (by decide +kernel)) (hts (.instantiable RX0 8) (by decide +kernel)) (hts (.initialized RX0) (by decide +kernel)) hK hP hD hS hA rfl (fun j hj => by rcases (show j = 0 ∨ j = 1 ∨ j = 2 ∨ j = 3 ∨ j = 4 ∨ j = 5 ∨ j = 6 ∨ j = 7 by omega) with rfl | rfl | rfl | rfl | rfl | rfl | rfl | rfl <;> rfl) (Nat.le_of_ble_eq_true rfl) (Nat.le_of_ble_eq_true rfl) dX1_init_5 (fun aR H hP hD hS => ?_)
  have hP : va_P (dC, dI) vwCl [(aP, .inr (1, [.null, .null, .int 0, .null, .int 0, .int 0, .int 0, .int 0, .int 0, .int 0, .int 0, .int 0])), (aR, .inr (0, [.int 0, .null, .null, .null, .int 0, .int 0, .int 0, .int 0]))] H := hP
  have hD : va_D A [(aP, .inr (1, [.null, .null, .int 0, .null, .int 0, .int 0, .int 0, .int 0, .int 0, .int 0, .int 0, .int 0])), (aR, .inr (0, [.int 0, .null, .null, .null, .int 0, .int 0, .int 0, .int 0]))] := hD
  refine W.widen (k := 1) (n := 8) (by omega) (by omega) ?_
  refine lv_dup hx hb dX1_init_8 rfl ?_
  refine lv_bipush (v := nI 64) hx hb dX1_init_9 (by decide) ?_
  refine lv_sipush (v := nI 16384) hx hb dX1_init_11 (by decide) ?_
  refine lv_iload_n hx hb dX1_init_14 rfl (lv_at hl 1 rfl) ?_
  refine va_mmin hx hb (hml.trans hl.1.symm) hown (hts (.methodLink RX1 11 Lib.Math.min.name) (by decide +kernel)) (hts (.static Lib.Math.min.name) (by decide +kernel)) (hts (.initialized "java/lang/Math") (by decide +kernel)) (hts (.code Lib.Math.min.name Lib.Math.min.code 2 (some .int)) (by decide +kernel)) (Nat.le_of_ble_eq_true rfl) (Nat.le_of_ble_eq_true rfl) (Nat.le_of_ble_eq_true rfl) (Nat.le_of_ble_eq_true rfl) dX1_init_15 ?_
  refine va_mmax hx hb (hml.trans hl.1.symm) hown (hts (.methodLink RX1 17 Lib.Math.max.name) (by decide +kernel)) (hts (.static Lib.Math.max.name) (by decide +kernel)) (hts (.initialized "java/lang/Math") (by decide +kernel)) (hts (.code Lib.Math.max.name Lib.Math.max.code 2 (some .int)) (by decide +kernel)) (Nat.le_of_ble_eq_true rfl) (Nat.le_of_ble_eq_true rfl) (Nat.le_of_ble_eq_true rfl) (Nat.le_of_ble_eq_true rfl) dX1_init_18 ?_
  refine zz_as (nI (md_room room)) (md_room_eq room) ?_
  have hR := md_room_in room
  obtain ⟨R, hRe⟩ : ∃ R, R = md_room room := ⟨_, rfl⟩
  rw [← hRe] at hR ⊢
  have hPc := hP.sub (ws' := [(aR, .inr (0, [.int 0, .null, .null, .null, .int 0, .int 0, .int 0, .int 0]))]) [1] rfl
  have hDc := hD.sub (ws' := [(aR, .inr (0, [.int 0, .null, .null, .null, .int 0, .int 0, .int 0, .int 0]))]) [1] (by decide) rfl
  have hKc := hK.sub (tys' := []) [] rfl
  have hFc := va_free (wc := [(aR, .inr (0, [.int 0, .null, .null, .null, .int 0, .int 0, .int 0, .int 0]))]) hD hS hA [1] rfl
  refine va_callv (va_runI (As := [.int (nI R)]) (rest := [.ref aR, .ref aP]) ⟨hx, hb, hml, hown, hts⟩ (c_R_init l dC dI aR R hR H.size) (cwI 1 hts gX1_init_X0_init rfl rfl rfl (hts (.initialized RX0) (by decide +kernel)) (hts (.methodLink RX1 20 yX0_init) (by decide +kernel)) (hts (.instanceMethod yX0_init) (by decide +kernel)) rfl (by decide +kernel) ⟨Nat.le_of_ble_eq_true rfl, Nat.le_of_ble_eq_true rfl⟩) ⟨fun a U g mk q => by obtain ⟨q0, q1, qP, qK, qD⟩ := q; exact ⟨q0, q1, qP, va_K.moved (u := U) (U := U.calling g mk a) (Vm.Alike.refl U.vm) qK, qD⟩, fun U hU hW => ⟨rfl, by rw [hU], by rw [hU]; exact hPc, va_K.moved hW.alike hKc, hDc.weaken (fun _ _ _ _ => trivial)⟩⟩ rfl rfl hl.1 rfl (lv_room (Nat.le_of_ble_eq_true rfl)) dX1_init_21 ⟨Nat.le_of_ble_eq_true rfl, Nat.le_of_ble_eq_true rfl⟩) hS (fun q _ h => hFc q h) hFc (fun u t H1 locs ht hvm hw hB hz1 hk1 hS => ?_)
  obtain ⟨aB, aS, aT, cB, cS, cT, hP1, hK1, hD1⟩ := hB
  rw [ht] at hP1
  have hK1 := va_K.moved hvm.symm hK1
  obtain ⟨hP, hD⟩ := va_join (wr := [(aP, .inr (1, [.null, .null, .int 0, .null, .int 0, .int 0, .int 0, .int 0, .int 0, .int 0, .int 0, .int 0]))]) (w1 := [(aR, .inr (0, [.int (nI R), .ref aB, .ref aS, .ref aT, .int 0, .int 0, .int 0, .int 0])), (aB, .inl (cB, R, .inl (fun _ => 0))), (aS, .inl (cS, R, .inl (fun _ => 0))), (aT, .inl (cT, R, .inl (fun _ => 0)))]) hP hD [1] [0] rfl rfl (by decide) (by decide) hk1 hFc hP1 hD1
  have hK := (hK.sub (tys' := []) [] rfl).app hK1
  generalize H1 = H at hP hS ⊢
  have hP : va_P (dC, dI) vwCl [(aP, .inr (1, [.null, .null, .int 0, .null, .int 0, .int 0, .int 0, .int 0, .int 0, .int 0, .int 0, .int 0])), (aR, .inr (0, [.int (nI R), .ref aB, .ref aS, .ref aT, .int 0, .int 0, .int 0, .int 0])), (aB, .inl (cB, R, .inl (fun _ => 0))), (aS, .inl (cS, R, .inl (fun _ => 0))), (aT, .inl (cT, R, .inl (fun _ => 0)))] H := hP
  have hD : va_D A [(aP, .inr (1, [.null, .null, .int 0, .null, .int 0, .int 0, .int 0, .int 0, .int 0, .int 0, .int 0, .int 0])), (aR, .inr (0, [.int (nI R), .ref aB, .ref aS, .ref aT, .int 0, .int 0, .int 0, .int 0])), (aB, .inl (cB, R, .inl (fun _ => 0))), (aS, .inl (cS, R, .inl (fun _ => 0))), (aT, .inl (cT, R, .inl (fun _ => 0)))] := hD
  have hK : va_K (dC, dI) vwCl [(cB, .byte), (cS, .int), (cT, .int)] s := hK
  refine W.widen (k := 4) (n := 49160) (by omega) (by omega) ?_
  refine va_putF (D := (dC, dI)) (ci := 1) (v := .ref aR) (ty := .object "PacketStore$Ring") (C := RX1) (T := TX1) (N := 12) hx hb hts hi_P tyX1 tyX1_ok nmX1 hown hK hP hD hS 0 rfl rfl 0 (by decide) (hts (.fieldLink RX1 23 "PacketStore" "ring" "LPacketStore$Ring;") (by decide +kernel)) (fun _ h9 => h9) rfl hin rfl (by decide +kernel) rfl rfl (Nat.le_of_ble_eq_true rfl) dX1_init_24 (fun H locs hP hD hS => ?_)
  have hP : va_P (dC, dI) vwCl [(aP, .inr (1, [.ref aR, .null, .int 0, .null, .int 0, .int 0, .int 0, .int 0, .int 0, .int 0, .int 0, .int 0])), (aR, .inr (0, [.int (nI R), .ref aB, .ref aS, .ref aT, .int 0, .int 0, .int 0, .int 0])), (aB, .inl (cB, R, .inl (fun _ => 0))), (aS, .inl (cS, R, .inl (fun _ => 0))), (aT, .inl (cT, R, .inl (fun _ => 0)))] H := hP
  have hD : va_D A [(aP, .inr (1, [.ref aR, .null, .int 0, .null, .int 0, .int 0, .int 0, .int 0, .int 0, .int 0, .int 0, .int 0])), (aR, .inr (0, [.int (nI R), .ref aB, .ref aS, .ref aT, .int 0, .int 0, .int 0, .int 0])), (aB, .inl (cB, R, .inl (fun _ => 0))), (aS, .inl (cS, R, .inl (fun _ => 0))), (aT, .inl (cT, R, .inl (fun _ => 0)))] := hD
  refine lv_aload_n hx hb dX1_init_27 rfl (lv_at hl 0 rfl) ?_
  refine lv_sipush (v := nI 512) hx hb dX1_init_28 (by decide) ?_
  refine va_newa (atype := .byte) hx hb (hts (.arrayClass .byte) (by decide +kernel)) rfl hK hP hD hS hA (N' := 512) (a0 := (512, .inl (fun _ => 0))) (fun _ => rfl) (nI_pos (by omega)) (nI_clamp (by omega)) (by decide) (Nat.le_of_ble_eq_true rfl) (Nat.le_of_ble_eq_true rfl) dX1_init_31 (fun aX cX H hK hP hD hS => ?_)
  have hP : va_P (dC, dI) vwCl [(aP, .inr (1, [.ref aR, .null, .int 0, .null, .int 0, .int 0, .int 0, .int 0, .int 0, .int 0, .int 0, .int 0])), (aR, .inr (0, [.int (nI R), .ref aB, .ref aS, .ref aT, .int 0, .int 0, .int 0, .int 0])), (aB, .inl (cB, R, .inl (fun _ => 0))), (aS, .inl (cS, R, .inl (fun _ => 0))), (aT, .inl (cT, R, .inl (fun _ => 0))), (aX, .inl (cX, 512, .inl (fun _ => 0)))] H := hP
  have hD : va_D A [(aP, .inr (1, [.ref aR, .null, .int 0, .null, .int 0, .int 0, .int 0, .int 0, .int 0, .int 0, .int 0, .int 0])), (aR, .inr (0, [.int (nI R), .ref aB, .ref aS, .ref aT, .int 0, .int 0, .int 0, .int 0])), (aB, .inl (cB, R, .inl (fun _ => 0))), (aS, .inl (cS, R, .inl (fun _ => 0))), (aT, .inl (cT, R, .inl (fun _ => 0))), (aX, .inl (cX, 512, .inl (fun _ => 0)))] := hD
  have hK : va_K (dC, dI) vwCl [(cB, .byte), (cS, .int), (cT, .int), (cX, .byte)] s := hK
  refine W.widen (k := 5) (n := 49672) (by omega) (by omega) ?_
  refine va_putF (D := (dC, dI)) (ci := 1) (v := .ref aX) (ty := .array .byte) (C := RX1) (T := TX1) (N := 12) hx hb hts hi_P tyX1 tyX1_ok nmX1 hown hK hP hD hS 0 rfl rfl 1 (by decide) (hts (.fieldLink RX1 27 "PacketStore" "text" "[B") (by decide +kernel)) (fun _ h9 => h9) rfl hin rfl (by decide +kernel) rfl rfl (Nat.le_of_ble_eq_true rfl) dX1_init_33 (fun H locs hP hD hS => ?_)
  have hP : va_P (dC, dI) vwCl [(aP, .inr (1, [.ref aR, .ref aX, .int 0, .null, .int 0, .int 0, .int 0, .int 0, .int 0, .int 0, .int 0, .int 0])), (aR, .inr (0, [.int (nI R), .ref aB, .ref aS, .ref aT, .int 0, .int 0, .int 0, .int 0])), (aB, .inl (cB, R, .inl (fun _ => 0))), (aS, .inl (cS, R, .inl (fun _ => 0))), (aT, .inl (cT, R, .inl (fun _ => 0))), (aX, .inl (cX, 512, .inl (fun _ => 0)))] H := hP
  have hD : va_D A [(aP, .inr (1, [.ref aR, .ref aX, .int 0, .null, .int 0, .int 0, .int 0, .int 0, .int 0, .int 0, .int 0, .int 0])), (aR, .inr (0, [.int (nI R), .ref aB, .ref aS, .ref aT, .int 0, .int 0, .int 0, .int 0])), (aB, .inl (cB, R, .inl (fun _ => 0))), (aS, .inl (cS, R, .inl (fun _ => 0))), (aT, .inl (cT, R, .inl (fun _ => 0))), (aX, .inl (cX, 512, .inl (fun _ => 0)))] := hD
  refine lv_aload_n hx hb dX1_init_36 rfl (lv_at hl 0 rfl) ?_
  refine lv_sipush (v := nI 512) hx hb dX1_init_37 (by decide) ?_
  refine va_newa (atype := .byte) hx hb (hts (.arrayClass .byte) (by decide +kernel)) rfl hK hP hD hS hA (N' := 512) (a0 := (512, .inl (fun _ => 0))) (fun _ => rfl) (nI_pos (by omega)) (nI_clamp (by omega)) (by decide) (Nat.le_of_ble_eq_true rfl) (Nat.le_of_ble_eq_true rfl) dX1_init_40 (fun aO cO H hK hP hD hS => ?_)
  have hP : va_P (dC, dI) vwCl [(aP, .inr (1, [.ref aR, .ref aX, .int 0, .null, .int 0, .int 0, .int 0, .int 0, .int 0, .int 0, .int 0, .int 0])), (aR, .inr (0, [.int (nI R), .ref aB, .ref aS, .ref aT, .int 0, .int 0, .int 0, .int 0])), (aB, .inl (cB, R, .inl (fun _ => 0))), (aS, .inl (cS, R, .inl (fun _ => 0))), (aT, .inl (cT, R, .inl (fun _ => 0))), (aX, .inl (cX, 512, .inl (fun _ => 0))), (aO, .inl (cO, 512, .inl (fun _ => 0)))] H := hP
  have hD : va_D A [(aP, .inr (1, [.ref aR, .ref aX, .int 0, .null, .int 0, .int 0, .int 0, .int 0, .int 0, .int 0, .int 0, .int 0])), (aR, .inr (0, [.int (nI R), .ref aB, .ref aS, .ref aT, .int 0, .int 0, .int 0, .int 0])), (aB, .inl (cB, R, .inl (fun _ => 0))), (aS, .inl (cS, R, .inl (fun _ => 0))), (aT, .inl (cT, R, .inl (fun _ => 0))), (aX, .inl (cX, 512, .inl (fun _ => 0))), (aO, .inl (cO, 512, .inl (fun _ => 0)))] := hD
  have hK : va_K (dC, dI) vwCl [(cB, .byte), (cS, .int), (cT, .int), (cX, .byte), (cO, .byte)] s := hK
  refine W.widen (k := 6) (n := 50184) (by omega) (by omega) ?_
  refine va_putF (D := (dC, dI)) (ci := 1) (v := .ref aO) (ty := .array .byte) (C := RX1) (T := TX1) (N := 12) hx hb hts hi_P tyX1 tyX1_ok nmX1 hown hK hP hD hS 0 rfl rfl 3 (by decide) (hts (.fieldLink RX1 31 "PacketStore" "output" "[B") (by decide +kernel)) (fun _ h9 => h9) rfl hin rfl (by decide +kernel) rfl rfl (Nat.le_of_ble_eq_true rfl) dX1_init_42 (fun H locs hP hD hS => ?_)
  have hP : va_P (dC, dI) vwCl [(aP, .inr (1, [.ref aR, .ref aX, .int 0, .ref aO, .int 0, .int 0, .int 0, .int 0, .int 0, .int 0, .int 0, .int 0])), (aR, .inr (0, [.int (nI R), .ref aB, .ref aS, .ref aT, .int 0, .int 0, .int 0, .int 0])), (aB, .inl (cB, R, .inl (fun _ => 0))), (aS, .inl (cS, R, .inl (fun _ => 0))), (aT, .inl (cT, R, .inl (fun _ => 0))), (aX, .inl (cX, 512, .inl (fun _ => 0))), (aO, .inl (cO, 512, .inl (fun _ => 0)))] H := hP
  have hD : va_D A [(aP, .inr (1, [.ref aR, .ref aX, .int 0, .ref aO, .int 0, .int 0, .int 0, .int 0, .int 0, .int 0, .int 0, .int 0])), (aR, .inr (0, [.int (nI R), .ref aB, .ref aS, .ref aT, .int 0, .int 0, .int 0, .int 0])), (aB, .inl (cB, R, .inl (fun _ => 0))), (aS, .inl (cS, R, .inl (fun _ => 0))), (aT, .inl (cT, R, .inl (fun _ => 0))), (aX, .inl (cX, 512, .inl (fun _ => 0))), (aO, .inl (cO, 512, .inl (fun _ => 0)))] := hD
  exact W.vret hx hb hr (fun t ht hW => ⟨⟨R, rfl, ⟨rfl, hR⟩, aR, aB, aS, aT, aX, aO, cB, cS, cT, cX, cO, by rw [ht]; exact hP, va_K.moved hW.alike hK, hD⟩, hS.F ht⟩) hS.2.2 dX1_init_45
