set_option maxHeartbeats 4000000 in
set_option maxRecDepth 100000 in
/-- model: next, none under way -/
theorem c_M_next_none (l : Launch) (dC : Nat → ClassId) (dI : Nat → Nat → Nat) (mM mX mO mT mS mB R ts os ma us ca dr de uw : Nat) (fr to : Int32) (lk : Nat) (most : Int32) (h0 : uw = 0) (hz : Nat) : Met l yM_next wsM_next ({ frames := 0, cells := 0, slots := 0, locals := 0 }) (va_Pc [.ref mM, .int most] (fun U => U.heap.size = hz ∧ va_P (dC, dI) vwCl [(mM, .inr (2, [.int (nI 0), .int (nI R), .ref mX, .int (nI ts), .ref mO, .int (nI os), .int (nI ma), .ref mT, .ref mS, .ref mB, .int (nI us), .int (nI ca), .int (nI dr), .int (nI de), .int (nI uw), .int fr, .int to, .int (nI lk)]))] U.heap ∧ va_K (dC, dI) vwCl [] U ∧ va_D (fun _ => True) [(mM, .inr (2, [.int (nI 0), .int (nI R), .ref mX, .int (nI ts), .ref mO, .int (nI os), .int (nI ma), .ref mT, .ref mS, .ref mB, .int (nI us), .int (nI ca), .int (nI dr), .int (nI de), .int (nI uw), .int fr, .int to, .int (nI lk)]))])) (va_Qi (fun (r : Int32) (u : Unit) => r = (-1)) (fun u t => va_P (dC, dI) vwCl [(mM, .inr (2, [.int (nI 0), .int (nI R), .ref mX, .int (nI ts), .ref mO, .int (nI os), .int (nI ma), .ref mT, .ref mS, .ref mB, .int (nI us), .int (nI ca), .int (nI dr), .int (nI de), .int (nI uw), .int fr, .int to, .int (nI lk)]))] t.heap ∧ va_K (dC, dI) vwCl [] t ∧ va_D (va_A [(mM, .inr (2, [.int (nI 0), .int (nI R), .ref mX, .int (nI ts), .ref mO, .int (nI os), .int (nI ma), .ref mT, .ref mS, .ref mB, .int (nI us), .int (nI ca), .int (nI dr), .int (nI de), .int (nI uw), .int fr, .int to, .int (nI lk)]))] hz) [(mM, .inr (2, [.int (nI 0), .int (nI R), .ref mX, .int (nI ts), .ref mO, .int (nI os), .int (nI ma), .ref mT, .ref mS, .ref mB, .int (nI us), .int (nI ca), .int (nI dr), .int (nI de), .int (nI uw), .int fr, .int to, .int (nI lk)]))]) (va_A [(mM, .inr (2, [.int (nI 0), .int (nI R), .ref mX, .int (nI ts), .ref mO, .int (nI os), .int (nI ma), .ref mT, .ref mS, .ref mB, .int (nI us), .int (nI ca), .int (nI dr), .int (nI de), .int (nI uw), .int fr, .int to, .int (nI lk)]))] hz)) 0 0 (va_A [(mM, .inr (2, [.int (nI 0), .int (nI R), .ref mX, .int (nI ts), .ref mO, .int (nI os), .int (nI ma), .ref mT, .ref mS, .ref mB, .int (nI us), .int (nI ca), .int (nI dr), .int (nI de), .int (nI uw), .int fr, .int to, .int (nI lk)]))] hz) := by
  refine Met.ofW (cc := cM_next) (maxL := 5) (ret := (some .int)) (by decide) rfl ?_
  intro p e s m args below meth c s₁ B hml hv
  obtain ⟨rfl, hsz, hP, hK, hD0⟩ := hv
  have hx := B.exec
  have hb := B.bytes
  have hr := B.returns
  have hts := atoms_spec (ws := wsM_next) B.pre
  have hown : s.vm.findClass RM = some m.cls := findClass_of_methodNamed B.named
  have hlocks := B.notSynchronized
  have hi_M : ∀ w ∈ u_ws RM TM 18, w ∈ wsM_next := by decide +kernel
  subst hsz
  have hD := hD0.self (sz := s.heap.size)
  generalize hAe : va_A [(mM, .inr (2, [.int (nI 0), .int (nI R), .ref mX, .int (nI ts), .ref mO, .int (nI os), .int (nI ma), .ref mT, .ref mS, .ref mB, .int (nI us), .int (nI ca), .int (nI dr), .int (nI de), .int (nI uw), .int fr, .int to, .int (nI lk)]))] s.heap.size = A at hD ⊢
  have hA : ∀ q : Nat, s.heap.size ≤ q → A q := fun q h => by rw [← hAe]; exact Or.inr h
  have hS : va_S A s.heap s.heap [] := va_S.rf
  have hP : va_P (dC, dI) vwCl [(mM, .inr (2, [.int (nI 0), .int (nI R), .ref mX, .int (nI ts), .ref mO, .int (nI os), .int (nI ma), .ref mT, .ref mS, .ref mB, .int (nI us), .int (nI ca), .int (nI dr), .int (nI de), .int (nI uw), .int fr, .int to, .int (nI lk)]))] s.heap := hP
  have hl := lv_entry ([.ref mM, .int most]) (n := 5) (Nat.le_of_ble_eq_true rfl)
  rw [lg_entry_eq]
  generalize (lg_sl ([.ref mM, .int most]) ++ List.replicate (5 - (lg_sl ([.ref mM, .int most])).length) Slot.unset).toArray = ls at hl ⊢
  have hl : lv_has ls 5 [(0, .ref mM), (1, .int most)] := hl
  refine lv_aload_n hx hb dM_next_0 rfl (lv_at hl 0 rfl) ?_
  refine lv_iconst (v := nI 0) hx hb dM_next_1 (by decide) ?_
  refine va_put (D := (dC, dI)) (ci := 2) (v := .int (nI 0)) (ty := .int) (C := RM) (T := TM) (N := 18) hx hb hts hi_M tyM tyM_ok nmM hown hK hP hD hS 0 rfl rfl 0 (by decide) (hts (.fieldLink RM 30 "PacketStoreModel" "thrown" "I") (by decide +kernel)) (fun _ h9 => h9) rfl (by decide +kernel) rfl rfl (Nat.le_of_ble_eq_true rfl) dM_next_2 (fun H locs hP hD hS => ?_)
  have hP : va_P (dC, dI) vwCl [(mM, .inr (2, [.int (nI 0), .int (nI R), .ref mX, .int (nI ts), .ref mO, .int (nI os), .int (nI ma), .ref mT, .ref mS, .ref mB, .int (nI us), .int (nI ca), .int (nI dr), .int (nI de), .int (nI uw), .int fr, .int to, .int (nI lk)]))] H := hP
  have hD : va_D A [(mM, .inr (2, [.int (nI 0), .int (nI R), .ref mX, .int (nI ts), .ref mO, .int (nI os), .int (nI ma), .ref mT, .ref mS, .ref mB, .int (nI us), .int (nI ca), .int (nI dr), .int (nI de), .int (nI uw), .int fr, .int to, .int (nI lk)]))] := hD
  refine lv_aload_n hx hb dM_next_5 rfl (lv_at hl 0 rfl) ?_
  refine va_get (D := (dC, dI)) (ci := 2) (v := .int (nI uw)) (C := RM) (T := TM) (N := 18) hx hb hts hi_M hown hK hP 0 rfl rfl 14 (by decide) (hts (.fieldLink RM 54 "PacketStoreModel" "retrieves" "Z") (by decide +kernel)) (fun _ h9 => h9) rfl dM_next_6 ?_
  refine zz_if_ne (a := uw) (tgt := 14) hx hb dM_next_9 (by decide) (by omega) (fun c9 => ?_) (fun c9 => ?_)
  · exact absurd h0 c9
  · refine lv_iconst (v := (-1)) hx hb dM_next_12 (by decide) ?_
    exact W.iret (v := ((-1))) hx hb hr (fun t ht hW => ⟨⟨_, (), rfl, rfl, by rw [ht]; exact hP, va_K.moved hW.alike hK, hD⟩, hS.F ht⟩) hS.2.2 dM_next_13
set_option maxHeartbeats 4000000 in
set_option maxRecDepth 100000 in
/-- model: next, a retrieval is under way -/
theorem c_M_next (l : Launch) (dC : Nat → ClassId) (dI : Nat → Nat → Nat) (mM mX mO mT mS mB R lo hi : Nat) (off : Nat → Nat) (ts os dr de : Nat) (fr to : Int32) (pa : Nat) (eO eT eS eB : ClassId) (Om Tm Sm Bm tm bz : Nat → Int32) (most : Int32) (hok : rg_ok R lo hi off) (hrm : rm_rep lo hi off tm bz Bm Sm Tm) (hpa : pa ≤ hi) (hhi : hi < 2 ^ 30) (h512 : ∀ i, lo ≤ i → i < hi → off (i + 1) - off i ≤ 512) (hz : Nat) : Met l yM_next wsM_next ({ frames := 1, cells := 0, slots := 0, locals := 23 }) (va_Pc [.ref mM, .int most] (fun U => U.heap.size = hz ∧ va_P (dC, dI) vwCl [(mM, .inr (2, [.int (nI 0), .int (nI R), .ref mX, .int (nI ts), .ref mO, .int (nI os), .int (nI (hi - lo)), .ref mT, .ref mS, .ref mB, .int (nI (off hi - off lo)), .int (nI hi), .int (nI dr), .int (nI de), .int (nI 1), .int fr, .int to, .int (nI pa)])), (mO, .inl (eO, 512, .inl Om)), (mT, .inl (eT, 16384, .inl Tm)), (mS, .inl (eS, 16384, .inl Sm)), (mB, .inl (eB, 16384, .inl Bm))] U.heap ∧ va_K (dC, dI) vwCl [(eO, .byte), (eT, .int), (eS, .int), (eB, .byte)] U ∧ va_D (fun _ => True) [(mM, .inr (2, [.int (nI 0), .int (nI R), .ref mX, .int (nI ts), .ref mO, .int (nI os), .int (nI (hi - lo)), .ref mT, .ref mS, .ref mB, .int (nI (off hi - off lo)), .int (nI hi), .int (nI dr), .int (nI de), .int (nI 1), .int fr, .int to, .int (nI pa)])), (mO, .inl (eO, 512, .inl Om)), (mT, .inl (eT, 16384, .inl Tm)), (mS, .inl (eS, 16384, .inl Sm)), (mB, .inl (eB, 16384, .inl Bm))])) (va_Qi (fun (r : Int32) (u : Nat × Nat × Nat × (Nat → Int32)) => ∃ w, pa - lo ≤ w ∧ w ≤ hi - lo ∧ (∀ t, pa - lo ≤ t → t < w → ¬ (fr ≤ tm (lo + t) ∧ tm (lo + t) ≤ to)) ∧ ((w = hi - lo ∧ r = (-1) ∧ u = (w, 0, os, Om)) ∨ (w < hi - lo ∧ (fr ≤ tm (lo + w) ∧ tm (lo + w) ≤ to) ∧ ((¬ nI (off (lo + w + 1) - off (lo + w)) ≤ most ∧ r = (-2) ∧ u = (w, 1, os, Om)) ∨ (nI (off (lo + w + 1) - off (lo + w)) ≤ most ∧ r = nI (off (lo + w + 1) - off (lo + w)) ∧ u.1 = w + 1 ∧ u.2.1 = 1 ∧ u.2.2.1 = off (lo + w + 1) - off (lo + w) ∧ ∀ t, t < off (lo + w + 1) - off (lo + w) → u.2.2.2 t = (bz (off (lo + w) + t)).toInt8.toInt32))))) (fun u t => va_P (dC, dI) vwCl [(mM, .inr (2, [.int (nI 0), .int (nI R), .ref mX, .int (nI ts), .ref mO, .int (nI u.2.2.1), .int (nI (hi - lo)), .ref mT, .ref mS, .ref mB, .int (nI (off hi - off lo)), .int (nI hi), .int (nI dr), .int (nI de), .int (nI u.2.1), .int fr, .int to, .int (nI (lo + u.1))])), (mO, .inl (eO, 512, .inl u.2.2.2)), (mT, .inl (eT, 16384, .inl Tm)), (mS, .inl (eS, 16384, .inl Sm)), (mB, .inl (eB, 16384, .inl Bm))] t.heap ∧ va_K (dC, dI) vwCl [(eO, .byte), (eT, .int), (eS, .int), (eB, .byte)] t ∧ va_D (va_A [(mM, .inr (2, [.int (nI 0), .int (nI R), .ref mX, .int (nI ts), .ref mO, .int (nI os), .int (nI (hi - lo)), .ref mT, .ref mS, .ref mB, .int (nI (off hi - off lo)), .int (nI hi), .int (nI dr), .int (nI de), .int (nI 1), .int fr, .int to, .int (nI pa)])), (mO, .inl (eO, 512, .inl Om)), (mT, .inl (eT, 16384, .inl Tm)), (mS, .inl (eS, 16384, .inl Sm)), (mB, .inl (eB, 16384, .inl Bm))] hz) [(mM, .inr (2, [.int (nI 0), .int (nI R), .ref mX, .int (nI ts), .ref mO, .int (nI u.2.2.1), .int (nI (hi - lo)), .ref mT, .ref mS, .ref mB, .int (nI (off hi - off lo)), .int (nI hi), .int (nI dr), .int (nI de), .int (nI u.2.1), .int fr, .int to, .int (nI (lo + u.1))])), (mO, .inl (eO, 512, .inl u.2.2.2)), (mT, .inl (eT, 16384, .inl Tm)), (mS, .inl (eS, 16384, .inl Sm)), (mB, .inl (eB, 16384, .inl Bm))]) (va_A [(mM, .inr (2, [.int (nI 0), .int (nI R), .ref mX, .int (nI ts), .ref mO, .int (nI os), .int (nI (hi - lo)), .ref mT, .ref mS, .ref mB, .int (nI (off hi - off lo)), .int (nI hi), .int (nI dr), .int (nI de), .int (nI 1), .int fr, .int to, .int (nI pa)])), (mO, .inl (eO, 512, .inl Om)), (mT, .inl (eT, 16384, .inl Tm)), (mS, .inl (eS, 16384, .inl Sm)), (mB, .inl (eB, 16384, .inl Bm))] hz)) 0 0 (va_A [(mM, .inr (2, [.int (nI 0), .int (nI R), .ref mX, .int (nI ts), .ref mO, .int (nI os), .int (nI (hi - lo)), .ref mT, .ref mS, .ref mB, .int (nI (off hi - off lo)), .int (nI hi), .int (nI dr), .int (nI de), .int (nI 1), .int fr, .int to, .int (nI pa)])), (mO, .inl (eO, 512, .inl Om)), (mT, .inl (eT, 16384, .inl Tm)), (mS, .inl (eS, 16384, .inl Sm)), (mB, .inl (eB, 16384, .inl Bm))] hz) := by
  refine Met.ofW (cc := cM_next) (maxL := 5) (ret := (some .int)) (by decide) rfl ?_
  intro p e s m args below meth c s₁ B hml hv
  obtain ⟨rfl, hsz, hP, hK, hD0⟩ := hv
  have hx := B.exec
  have hb := B.bytes
  have hr := B.returns
  have hts := atoms_spec (ws := wsM_next) B.pre
  have hown : s.vm.findClass RM = some m.cls := findClass_of_methodNamed B.named
  have hlocks := B.notSynchronized
  have hi_M : ∀ w ∈ u_ws RM TM 18, w ∈ wsM_next := by decide +kernel
  subst hsz
  have hD := hD0.self (sz := s.heap.size)
  generalize hAe : va_A [(mM, .inr (2, [.int (nI 0), .int (nI R), .ref mX, .int (nI ts), .ref mO, .int (nI os), .int (nI (hi - lo)), .ref mT, .ref mS, .ref mB, .int (nI (off hi - off lo)), .int (nI hi), .int (nI dr), .int (nI de), .int (nI 1), .int fr, .int to, .int (nI pa)])), (mO, .inl (eO, 512, .inl Om)), (mT, .inl (eT, 16384, .inl Tm)), (mS, .inl (eS, 16384, .inl Sm)), (mB, .inl (eB, 16384, .inl Bm))] s.heap.size = A at hD ⊢
  have hA : ∀ q : Nat, s.heap.size ≤ q → A q := fun q h => by rw [← hAe]; exact Or.inr h
  have hS : va_S A s.heap s.heap [] := va_S.rf
  have hP : va_P (dC, dI) vwCl [(mM, .inr (2, [.int (nI 0), .int (nI R), .ref mX, .int (nI ts), .ref mO, .int (nI os), .int (nI (hi - lo)), .ref mT, .ref mS, .ref mB, .int (nI (off hi - off lo)), .int (nI hi), .int (nI dr), .int (nI de), .int (nI 1), .int fr, .int to, .int (nI pa)])), (mO, .inl (eO, 512, .inl Om)), (mT, .inl (eT, 16384, .inl Tm)), (mS, .inl (eS, 16384, .inl Sm)), (mB, .inl (eB, 16384, .inl Bm))] s.heap := hP
  have hl := lv_entry ([.ref mM, .int most]) (n := 5) (Nat.le_of_ble_eq_true rfl)
  rw [lg_entry_eq]
  generalize (lg_sl ([.ref mM, .int most]) ++ List.replicate (5 - (lg_sl ([.ref mM, .int most])).length) Slot.unset).toArray = ls at hl ⊢
  have hl : lv_has ls 5 [(0, .ref mM), (1, .int most)] := hl
  have hRR := hok.1
  have hll := hok.2.1
  have hcap := hok.2.2.1
  have hgap := hok.gap (Nat.le_refl lo) hll (Nat.le_refl hi)
  refine lv_aload_n hx hb dM_next_0 rfl (lv_at hl 0 rfl) ?_
  refine lv_iconst (v := nI 0) hx hb dM_next_1 (by decide) ?_
  refine va_put (D := (dC, dI)) (ci := 2) (v := .int (nI 0)) (ty := .int) (C := RM) (T := TM) (N := 18) hx hb hts hi_M tyM tyM_ok nmM hown hK hP hD hS 0 rfl rfl 0 (by decide) (hts (.fieldLink RM 30 "PacketStoreModel" "thrown" "I") (by decide +kernel)) (fun _ h9 => h9) rfl (by decide +kernel) rfl rfl (Nat.le_of_ble_eq_true rfl) dM_next_2 (fun H locs hP hD hS => ?_)
  have hP : va_P (dC, dI) vwCl [(mM, .inr (2, [.int (nI 0), .int (nI R), .ref mX, .int (nI ts), .ref mO, .int (nI os), .int (nI (hi - lo)), .ref mT, .ref mS, .ref mB, .int (nI (off hi - off lo)), .int (nI hi), .int (nI dr), .int (nI de), .int (nI 1), .int fr, .int to, .int (nI pa)])), (mO, .inl (eO, 512, .inl Om)), (mT, .inl (eT, 16384, .inl Tm)), (mS, .inl (eS, 16384, .inl Sm)), (mB, .inl (eB, 16384, .inl Bm))] H := hP
  have hD : va_D A [(mM, .inr (2, [.int (nI 0), .int (nI R), .ref mX, .int (nI ts), .ref mO, .int (nI os), .int (nI (hi - lo)), .ref mT, .ref mS, .ref mB, .int (nI (off hi - off lo)), .int (nI hi), .int (nI dr), .int (nI de), .int (nI 1), .int fr, .int to, .int (nI pa)])), (mO, .inl (eO, 512, .inl Om)), (mT, .inl (eT, 16384, .inl Tm)), (mS, .inl (eS, 16384, .inl Sm)), (mB, .inl (eB, 16384, .inl Bm))] := hD
  refine lv_aload_n hx hb dM_next_5 rfl (lv_at hl 0 rfl) ?_
  refine va_get (D := (dC, dI)) (ci := 2) (v := .int (nI 1)) (C := RM) (T := TM) (N := 18) hx hb hts hi_M hown hK hP 0 rfl rfl 14 (by decide) (hts (.fieldLink RM 54 "PacketStoreModel" "retrieves" "Z") (by decide +kernel)) (fun _ h9 => h9) rfl dM_next_6 ?_
  refine zz_if_ne (a := 1) (tgt := 14) hx hb dM_next_9 (by decide) (by decide) (fun c9 => ?_) (fun c9 => ?_)
  · refine lv_aload_n hx hb dM_next_14 rfl (lv_at hl 0 rfl) ?_
    refine va_get (D := (dC, dI)) (ci := 2) (v := .int (nI pa)) (C := RM) (T := TM) (N := 18) hx hb hts hi_M hown hK hP 0 rfl rfl 17 (by decide) (hts (.fieldLink RM 64 "PacketStoreModel" "looks" "I") (by decide +kernel)) (fun _ h9 => h9) rfl dM_next_15 ?_
    refine lv_aload_n hx hb dM_next_18 rfl (lv_at hl 0 rfl) ?_
    refine va_get (D := (dC, dI)) (ci := 2) (v := .int (nI hi)) (C := RM) (T := TM) (N := 18) hx hb hts hi_M hown hK hP 0 rfl rfl 11 (by decide) (hts (.fieldLink RM 48 "PacketStoreModel" "came" "I") (by decide +kernel)) (fun _ h9 => h9) rfl dM_next_19 ?_
    refine lv_aload_n hx hb dM_next_22 rfl (lv_at hl 0 rfl) ?_
    refine va_get (D := (dC, dI)) (ci := 2) (v := .int (nI (hi - lo))) (C := RM) (T := TM) (N := 18) hx hb hts hi_M hown hK hP 0 rfl rfl 6 (by decide) (hts (.fieldLink RM 36 "PacketStoreModel" "many" "I") (by decide +kernel)) (fun _ h9 => h9) rfl dM_next_23 ?_
    refine lv_isub hx hb dM_next_26 ?_
    refine zz_as (nI (hi - (hi - lo))) (pk_sub (by omega)) ?_
    refine zz_as (nI lo) (congrArg nI (by omega)) ?_
    refine lv_isub hx hb dM_next_27 ?_
    refine lv_istore_n (lv' := [(2, .int (((nI pa)) - ((nI lo)))), (0, .ref mM), (1, .int most)]) hx hb dM_next_28 rfl hl (by decide) rfl (fun ls hl => ?_)
    refine lv_iload_n hx hb dM_next_29 rfl (lv_at hl 0 rfl) ?_
    refine lv_if_ge (tgt := 37) hx hb dM_next_30 (by decide) (fun c30 => ?_) (fun c30 => ?_)
    · refine lv_iload_n hx hb dM_next_37 rfl (lv_at hl 0 rfl) ?_
      refine zz_as (nI (pa - lo)) (pk_sub ((rg_ge0 (by omega) (by omega)).mp c30)) ?_
      refine lv_istore_n (lv' := [(2, .int (nI (pa - lo))), (0, .ref mM), (1, .int most)]) hx hb dM_next_38 rfl hl (by decide) rfl (fun ls hl => ?_)
      refine zz_loop (σ := Nat) (fun n v H locs ls => (n + v = hi - lo + 1 ∧ v ≤ hi - lo ∧ pa - lo ≤ v ∧ ∀ t, pa - lo ≤ t → t < v → ¬ (fr ≤ tm (lo + t) ∧ tm (lo + t) ≤ to)) ∧ va_P (dC, dI) vwCl [(mM, .inr (2, [.int (nI 0), .int (nI R), .ref mX, .int (nI ts), .ref mO, .int (nI os), .int (nI (hi - lo)), .ref mT, .ref mS, .ref mB, .int (nI (off hi - off lo)), .int (nI hi), .int (nI dr), .int (nI de), .int (nI 1), .int fr, .int to, .int (nI pa)])), (mO, .inl (eO, 512, .inl Om)), (mT, .inl (eT, 16384, .inl Tm)), (mS, .inl (eS, 16384, .inl Sm)), (mB, .inl (eB, 16384, .inl Bm))] H ∧ va_D A [(mM, .inr (2, [.int (nI 0), .int (nI R), .ref mX, .int (nI ts), .ref mO, .int (nI os), .int (nI (hi - lo)), .ref mT, .ref mS, .ref mB, .int (nI (off hi - off lo)), .int (nI hi), .int (nI dr), .int (nI de), .int (nI 1), .int fr, .int to, .int (nI pa)])), (mO, .inl (eO, 512, .inl Om)), (mT, .inl (eT, 16384, .inl Tm)), (mS, .inl (eS, 16384, .inl Sm)), (mB, .inl (eB, 16384, .inl Bm))] ∧ va_S A s.heap H locs ∧ lv_has ls 5 [(2, .int (nI v)), (0, .ref mM), (1, .int most)]) (fun v H locs ls h => ?_) (fun n v H locs ls h ih => ?_) (hi - lo + 1 - (pa - lo)) (pa - lo) _ _ _ ⟨⟨by omega, by omega, Nat.le_refl _, fun t h1 h2 => absurd h2 (Nat.not_lt.mpr h1)⟩, hP, hD, hS, lv_sub hl [0, 1, 2] rfl⟩
      · obtain ⟨⟨h1, h2, -⟩, -⟩ := h
        omega
      obtain ⟨⟨hj1, hj2, hj4, hj3⟩, hP, hD, hS, hl⟩ := h
      have hP : va_P (dC, dI) vwCl [(mM, .inr (2, [.int (nI 0), .int (nI R), .ref mX, .int (nI ts), .ref mO, .int (nI os), .int (nI (hi - lo)), .ref mT, .ref mS, .ref mB, .int (nI (off hi - off lo)), .int (nI hi), .int (nI dr), .int (nI de), .int (nI 1), .int fr, .int to, .int (nI pa)])), (mO, .inl (eO, 512, .inl Om)), (mT, .inl (eT, 16384, .inl Tm)), (mS, .inl (eS, 16384, .inl Sm)), (mB, .inl (eB, 16384, .inl Bm))] H := hP
      have hD : va_D A [(mM, .inr (2, [.int (nI 0), .int (nI R), .ref mX, .int (nI ts), .ref mO, .int (nI os), .int (nI (hi - lo)), .ref mT, .ref mS, .ref mB, .int (nI (off hi - off lo)), .int (nI hi), .int (nI dr), .int (nI de), .int (nI 1), .int fr, .int to, .int (nI pa)])), (mO, .inl (eO, 512, .inl Om)), (mT, .inl (eT, 16384, .inl Tm)), (mS, .inl (eS, 16384, .inl Sm)), (mB, .inl (eB, 16384, .inl Bm))] := hD
      have hl : lv_has ls 5 [(2, .int (nI v)), (0, .ref mM), (1, .int most)] := hl
      refine lv_iload_n hx hb dM_next_39 rfl (lv_at hl 0 rfl) ?_
      refine lv_aload_n hx hb dM_next_40 rfl (lv_at hl 1 rfl) ?_
      refine va_get (D := (dC, dI)) (ci := 2) (v := .int (nI (hi - lo))) (C := RM) (T := TM) (N := 18) hx hb hts hi_M hown hK hP 0 rfl rfl 6 (by decide) (hts (.fieldLink RM 36 "PacketStoreModel" "many" "I") (by decide +kernel)) (fun _ h9 => h9) rfl dM_next_41 ?_
      refine zz_icmp_ge (a := v) (b := hi - lo) (tgt := 79) hx hb dM_next_44 (by decide) (by omega) (by omega) (fun c44 => ?_) (fun c44 => ?_)
      · refine lv_aload_n hx hb dM_next_79 rfl (lv_at hl 1 rfl) ?_
        refine lv_aload_n hx hb dM_next_80 rfl (lv_at hl 1 rfl) ?_
        refine va_get (D := (dC, dI)) (ci := 2) (v := .int (nI hi)) (C := RM) (T := TM) (N := 18) hx hb hts hi_M hown hK hP 0 rfl rfl 11 (by decide) (hts (.fieldLink RM 48 "PacketStoreModel" "came" "I") (by decide +kernel)) (fun _ h9 => h9) rfl dM_next_81 ?_
        refine lv_aload_n hx hb dM_next_84 rfl (lv_at hl 1 rfl) ?_
        refine va_get (D := (dC, dI)) (ci := 2) (v := .int (nI (hi - lo))) (C := RM) (T := TM) (N := 18) hx hb hts hi_M hown hK hP 0 rfl rfl 6 (by decide) (hts (.fieldLink RM 36 "PacketStoreModel" "many" "I") (by decide +kernel)) (fun _ h9 => h9) rfl dM_next_85 ?_
        refine lv_isub hx hb dM_next_88 ?_
        refine zz_as (nI (hi - (hi - lo))) (pk_sub (by omega)) ?_
        refine lv_iload_n hx hb dM_next_89 rfl (lv_at hl 0 rfl) ?_
        refine lv_iadd hx hb dM_next_90 ?_
        refine zz_as (nI ((hi - (hi - lo)) + v)) (nI_add _ _) ?_
        refine zz_as (nI (lo + v)) (congrArg nI (by omega)) ?_
        refine va_put (D := (dC, dI)) (ci := 2) (v := .int (nI (lo + v))) (ty := .int) (C := RM) (T := TM) (N := 18) hx hb hts hi_M tyM tyM_ok nmM hown hK hP hD hS 0 rfl rfl 17 (by decide) (hts (.fieldLink RM 64 "PacketStoreModel" "looks" "I") (by decide +kernel)) (fun _ h9 => h9) rfl (by decide +kernel) rfl rfl (Nat.le_of_ble_eq_true rfl) dM_next_91 (fun H locs hP hD hS => ?_)
        have hP : va_P (dC, dI) vwCl [(mM, .inr (2, [.int (nI 0), .int (nI R), .ref mX, .int (nI ts), .ref mO, .int (nI os), .int (nI (hi - lo)), .ref mT, .ref mS, .ref mB, .int (nI (off hi - off lo)), .int (nI hi), .int (nI dr), .int (nI de), .int (nI 1), .int fr, .int to, .int (nI (lo + v))])), (mO, .inl (eO, 512, .inl Om)), (mT, .inl (eT, 16384, .inl Tm)), (mS, .inl (eS, 16384, .inl Sm)), (mB, .inl (eB, 16384, .inl Bm))] H := hP
        have hD : va_D A [(mM, .inr (2, [.int (nI 0), .int (nI R), .ref mX, .int (nI ts), .ref mO, .int (nI os), .int (nI (hi - lo)), .ref mT, .ref mS, .ref mB, .int (nI (off hi - off lo)), .int (nI hi), .int (nI dr), .int (nI de), .int (nI 1), .int fr, .int to, .int (nI (lo + v))])), (mO, .inl (eO, 512, .inl Om)), (mT, .inl (eT, 16384, .inl Tm)), (mS, .inl (eS, 16384, .inl Sm)), (mB, .inl (eB, 16384, .inl Bm))] := hD
        refine lv_iload_n hx hb dM_next_94 rfl (lv_at hl 0 rfl) ?_
        refine lv_aload_n hx hb dM_next_95 rfl (lv_at hl 1 rfl) ?_
        refine va_get (D := (dC, dI)) (ci := 2) (v := .int (nI (hi - lo))) (C := RM) (T := TM) (N := 18) hx hb hts hi_M hown hK hP 0 rfl rfl 6 (by decide) (hts (.fieldLink RM 36 "PacketStoreModel" "many" "I") (by decide +kernel)) (fun _ h9 => h9) rfl dM_next_96 ?_
        refine zz_icmp_ne (a := v) (b := hi - lo) (tgt := 109) hx hb dM_next_99 (by decide) (by omega) (by omega) (fun c99 => ?_) (fun c99 => ?_)
        · exact absurd (show v = hi - lo by omega) c99
        · refine lv_aload_n hx hb dM_next_102 rfl (lv_at hl 1 rfl) ?_
          refine lv_iconst (v := nI 0) hx hb dM_next_103 (by decide) ?_
          refine va_put (D := (dC, dI)) (ci := 2) (v := .int (nI 0)) (ty := .boolean) (C := RM) (T := TM) (N := 18) hx hb hts hi_M tyM tyM_ok nmM hown hK hP hD hS 0 rfl rfl 14 (by decide) (hts (.fieldLink RM 54 "PacketStoreModel" "retrieves" "Z") (by decide +kernel)) (fun _ h9 => h9) rfl (by decide +kernel) rfl rfl (Nat.le_of_ble_eq_true rfl) dM_next_104 (fun H locs hP hD hS => ?_)
          have hP : va_P (dC, dI) vwCl [(mM, .inr (2, [.int (nI 0), .int (nI R), .ref mX, .int (nI ts), .ref mO, .int (nI os), .int (nI (hi - lo)), .ref mT, .ref mS, .ref mB, .int (nI (off hi - off lo)), .int (nI hi), .int (nI dr), .int (nI de), .int (nI 0), .int fr, .int to, .int (nI (lo + v))])), (mO, .inl (eO, 512, .inl Om)), (mT, .inl (eT, 16384, .inl Tm)), (mS, .inl (eS, 16384, .inl Sm)), (mB, .inl (eB, 16384, .inl Bm))] H := hP
          have hD : va_D A [(mM, .inr (2, [.int (nI 0), .int (nI R), .ref mX, .int (nI ts), .ref mO, .int (nI os), .int (nI (hi - lo)), .ref mT, .ref mS, .ref mB, .int (nI (off hi - off lo)), .int (nI hi), .int (nI dr), .int (nI de), .int (nI 0), .int fr, .int to, .int (nI (lo + v))])), (mO, .inl (eO, 512, .inl Om)), (mT, .inl (eT, 16384, .inl Tm)), (mS, .inl (eS, 16384, .inl Sm)), (mB, .inl (eB, 16384, .inl Bm))] := hD
          refine lv_iconst (v := (-1)) hx hb dM_next_107 (by decide) ?_
          exact W.iret (v := ((-1))) hx hb hr (fun t ht hW => ⟨⟨_, (v, 0, os, Om), rfl, ⟨v, hj4, hj2, hj3, Or.inl ⟨c99, rfl, rfl⟩⟩, by rw [ht]; exact hP, va_K.moved hW.alike hK, hD⟩, hS.F ht⟩) hS.2.2 dM_next_108
      · refine lv_aload_n hx hb dM_next_47 rfl (lv_at hl 1 rfl) ?_
        refine va_get (D := (dC, dI)) (ci := 2) (v := .ref mT) (C := RM) (T := TM) (N := 18) hx hb hts hi_M hown hK hP 0 rfl rfl 7 (by decide) (hts (.fieldLink RM 16 "PacketStoreModel" "time" "[I") (by decide +kernel)) (fun _ h9 => h9) rfl dM_next_48 ?_
        refine lv_iload_n hx hb dM_next_51 rfl (lv_at hl 0 rfl) ?_
        refine zz_iald hx hb hK hP 2 1 rfl rfl (j := v) (by omega) (by omega) dM_next_52 ?_
        refine zz_as (tm (lo + v)) (hrm.1 v (by omega)) ?_
        refine lv_aload_n hx hb dM_next_53 rfl (lv_at hl 1 rfl) ?_
        refine va_get (D := (dC, dI)) (ci := 2) (v := .int fr) (C := RM) (T := TM) (N := 18) hx hb hts hi_M hown hK hP 0 rfl rfl 15 (by decide) (hts (.fieldLink RM 58 "PacketStoreModel" "from" "I") (by decide +kernel)) (fun _ h9 => h9) rfl dM_next_54 ?_
        refine lv_icmp_lt (tgt := 73) hx hb dM_next_57 (by decide) (fun c57 => ?_) (fun c57 => ?_)
        · refine lv_iinc (v := nI (v + 1)) (lv' := [(2, .int (nI (v + 1))), (0, .ref mM), (1, .int most)]) hx hb dM_next_73 hl (k := 0) rfl (show nI v + 1 = nI (v + 1) from nI_1 _) (by decide) rfl (fun ls hl => ?_)
          refine lv_goto (tgt := 39) hx hb dM_next_76 (by decide) ?_
          exact ih (v + 1) _ _ _ ⟨⟨by omega, by omega, by omega, fun t h1 h2 => (Nat.lt_or_ge t v).elim (fun q => hj3 t h1 q) (fun q => by rw [show t = v by omega]; exact fun h => zz_nlt h.1 c57)⟩, hP, hD, hS, lv_sub hl [0, 1, 2] rfl⟩
        · refine lv_aload_n hx hb dM_next_60 rfl (lv_at hl 1 rfl) ?_
          refine va_get (D := (dC, dI)) (ci := 2) (v := .ref mT) (C := RM) (T := TM) (N := 18) hx hb hts hi_M hown hK hP 0 rfl rfl 7 (by decide) (hts (.fieldLink RM 16 "PacketStoreModel" "time" "[I") (by decide +kernel)) (fun _ h9 => h9) rfl dM_next_61 ?_
          refine lv_iload_n hx hb dM_next_64 rfl (lv_at hl 0 rfl) ?_
          refine zz_iald hx hb hK hP 2 1 rfl rfl (j := v) (by omega) (by omega) dM_next_65 ?_
          refine zz_as (tm (lo + v)) (hrm.1 v (by omega)) ?_
          refine lv_aload_n hx hb dM_next_66 rfl (lv_at hl 1 rfl) ?_
          refine va_get (D := (dC, dI)) (ci := 2) (v := .int to) (C := RM) (T := TM) (N := 18) hx hb hts hi_M hown hK hP 0 rfl rfl 16 (by decide) (hts (.fieldLink RM 61 "PacketStoreModel" "to" "I") (by decide +kernel)) (fun _ h9 => h9) rfl dM_next_67 ?_
          refine lv_icmp_le (tgt := 79) hx hb dM_next_70 (by decide) (fun c70 => ?_) (fun c70 => ?_)
          · refine lv_aload_n hx hb dM_next_79 rfl (lv_at hl 1 rfl) ?_
            refine lv_aload_n hx hb dM_next_80 rfl (lv_at hl 1 rfl) ?_
            refine va_get (D := (dC, dI)) (ci := 2) (v := .int (nI hi)) (C := RM) (T := TM) (N := 18) hx hb hts hi_M hown hK hP 0 rfl rfl 11 (by decide) (hts (.fieldLink RM 48 "PacketStoreModel" "came" "I") (by decide +kernel)) (fun _ h9 => h9) rfl dM_next_81 ?_
            refine lv_aload_n hx hb dM_next_84 rfl (lv_at hl 1 rfl) ?_
            refine va_get (D := (dC, dI)) (ci := 2) (v := .int (nI (hi - lo))) (C := RM) (T := TM) (N := 18) hx hb hts hi_M hown hK hP 0 rfl rfl 6 (by decide) (hts (.fieldLink RM 36 "PacketStoreModel" "many" "I") (by decide +kernel)) (fun _ h9 => h9) rfl dM_next_85 ?_
            refine lv_isub hx hb dM_next_88 ?_
            refine zz_as (nI (hi - (hi - lo))) (pk_sub (by omega)) ?_
            refine lv_iload_n hx hb dM_next_89 rfl (lv_at hl 0 rfl) ?_
            refine lv_iadd hx hb dM_next_90 ?_
            refine zz_as (nI ((hi - (hi - lo)) + v)) (nI_add _ _) ?_
            refine zz_as (nI (lo + v)) (congrArg nI (by omega)) ?_
            refine va_put (D := (dC, dI)) (ci := 2) (v := .int (nI (lo + v))) (ty := .int) (C := RM) (T := TM) (N := 18) hx hb hts hi_M tyM tyM_ok nmM hown hK hP hD hS 0 rfl rfl 17 (by decide) (hts (.fieldLink RM 64 "PacketStoreModel" "looks" "I") (by decide +kernel)) (fun _ h9 => h9) rfl (by decide +kernel) rfl rfl (Nat.le_of_ble_eq_true rfl) dM_next_91 (fun H locs hP hD hS => ?_)
            have hP : va_P (dC, dI) vwCl [(mM, .inr (2, [.int (nI 0), .int (nI R), .ref mX, .int (nI ts), .ref mO, .int (nI os), .int (nI (hi - lo)), .ref mT, .ref mS, .ref mB, .int (nI (off hi - off lo)), .int (nI hi), .int (nI dr), .int (nI de), .int (nI 1), .int fr, .int to, .int (nI (lo + v))])), (mO, .inl (eO, 512, .inl Om)), (mT, .inl (eT, 16384, .inl Tm)), (mS, .inl (eS, 16384, .inl Sm)), (mB, .inl (eB, 16384, .inl Bm))] H := hP
            have hD : va_D A [(mM, .inr (2, [.int (nI 0), .int (nI R), .ref mX, .int (nI ts), .ref mO, .int (nI os), .int (nI (hi - lo)), .ref mT, .ref mS, .ref mB, .int (nI (off hi - off lo)), .int (nI hi), .int (nI dr), .int (nI de), .int (nI 1), .int fr, .int to, .int (nI (lo + v))])), (mO, .inl (eO, 512, .inl Om)), (mT, .inl (eT, 16384, .inl Tm)), (mS, .inl (eS, 16384, .inl Sm)), (mB, .inl (eB, 16384, .inl Bm))] := hD
            refine lv_iload_n hx hb dM_next_94 rfl (lv_at hl 0 rfl) ?_
            refine lv_aload_n hx hb dM_next_95 rfl (lv_at hl 1 rfl) ?_
            refine va_get (D := (dC, dI)) (ci := 2) (v := .int (nI (hi - lo))) (C := RM) (T := TM) (N := 18) hx hb hts hi_M hown hK hP 0 rfl rfl 6 (by decide) (hts (.fieldLink RM 36 "PacketStoreModel" "many" "I") (by decide +kernel)) (fun _ h9 => h9) rfl dM_next_96 ?_
            refine zz_icmp_ne (a := v) (b := hi - lo) (tgt := 109) hx hb dM_next_99 (by decide) (by omega) (by omega) (fun c99 => ?_) (fun c99 => ?_)
            · have hk : lo + v < hi := by omega
              have hwant : fr ≤ tm (lo + v) ∧ tm (lo + v) ≤ to := ⟨zz_lnt c57, c70⟩
              have hk1 : off (lo + v) < off (lo + v + 1) := hok.2.2.2 (lo + v) (by omega) hk
              have hk2 : off lo + (lo + v - lo) ≤ off (lo + v) := hok.gap (Nat.le_refl lo) (by omega) (by omega)
              have hk3 : off (lo + v + 1) + (hi - (lo + v + 1)) ≤ off hi := hok.gap (by omega) (by omega) (Nat.le_refl hi)
              have hk4 := h512 (lo + v) (by omega) hk
              refine lv_aload_n hx hb dM_next_109 rfl (lv_at hl 1 rfl) ?_
              refine va_get (D := (dC, dI)) (ci := 2) (v := .ref mS) (C := RM) (T := TM) (N := 18) hx hb hts hi_M hown hK hP 0 rfl rfl 8 (by decide) (hts (.fieldLink RM 20 "PacketStoreModel" "size" "[I") (by decide +kernel)) (fun _ h9 => h9) rfl dM_next_110 ?_
              refine lv_iload_n hx hb dM_next_113 rfl (lv_at hl 0 rfl) ?_
              refine zz_iald hx hb hK hP 3 2 rfl rfl (j := v) (by omega) (by omega) dM_next_114 ?_
              refine zz_as (nI (off (lo + v + 1) - off (lo + v))) (hrm.2.1 v (by omega)) ?_
              refine lv_iload_n hx hb dM_next_115 rfl (lv_at hl 2 rfl) ?_
              refine lv_icmp_le (tgt := 122) hx hb dM_next_116 (by decide) (fun c116 => ?_) (fun c116 => ?_)
              · refine lv_aload_n hx hb dM_next_122 rfl (lv_at hl 1 rfl) ?_
                refine lv_iload_n hx hb dM_next_123 rfl (lv_at hl 0 rfl) ?_
                refine zz_callR (As := [.int (nI v)]) (rest := []) ⟨hx, hb, hml, hown, hts⟩ (c_M_start l dC dI mM mX mO mT mS mB R lo hi off ts os dr de 1 fr to ((lo + v)) eS Sm v hok hrm.2.1 (by omega)) (cwV 1 hts gM_next_start rfl rfl rfl (by decide +kernel) ⟨Nat.le_of_ble_eq_true rfl, Nat.le_of_ble_eq_true rfl⟩) (hP.sub [0, 3] rfl) (hK.sub [2] rfl) 0 rfl rfl rfl rfl hl.1 rfl (Nat.le_of_ble_eq_true rfl) dM_next_124 ⟨Nat.zero_le _, Nat.zero_le _⟩ (fun r124 e124 => ?_)
                subst e124
                refine lv_istore_n (lv' := [(3, .int (nI (off (lo + v) - off lo))), (2, .int (nI v)), (0, .ref mM), (1, .int most)]) hx hb dM_next_127 rfl hl (by decide) rfl (fun ls hl => ?_)
                refine lv_iconst (v := nI 0) hx hb dM_next_128 (by decide) ?_
                refine lv_istore (lv' := [(4, .int (nI 0)), (3, .int (nI (off (lo + v) - off lo))), (2, .int (nI v)), (0, .ref mM), (1, .int most)]) hx hb dM_next_129 hl (by decide) rfl (fun ls hl => ?_)
                obtain ⟨v0, ev0⟩ : ∃ v0, v0 = v := ⟨_, rfl⟩
                subst ev0
                refine zz_loop (σ := Nat × (Nat → Int32)) (fun n v H locs ls => (n + v.1 = (off (lo + v0 + 1) - off (lo + v0)) + 1 ∧ v.1 ≤ off (lo + v0 + 1) - off (lo + v0) ∧ ∀ t, t < v.1 → v.2 t = (bz (off (lo + v0) + t)).toInt8.toInt32) ∧ va_P (dC, dI) vwCl [(mM, .inr (2, [.int (nI 0), .int (nI R), .ref mX, .int (nI ts), .ref mO, .int (nI os), .int (nI (hi - lo)), .ref mT, .ref mS, .ref mB, .int (nI (off hi - off lo)), .int (nI hi), .int (nI dr), .int (nI de), .int (nI 1), .int fr, .int to, .int (nI (lo + v0))])), (mO, .inl (eO, 512, .inl v.2)), (mT, .inl (eT, 16384, .inl Tm)), (mS, .inl (eS, 16384, .inl Sm)), (mB, .inl (eB, 16384, .inl Bm))] H ∧ va_D A [(mM, .inr (2, [.int (nI 0), .int (nI R), .ref mX, .int (nI ts), .ref mO, .int (nI os), .int (nI (hi - lo)), .ref mT, .ref mS, .ref mB, .int (nI (off hi - off lo)), .int (nI hi), .int (nI dr), .int (nI de), .int (nI 1), .int fr, .int to, .int (nI (lo + v0))])), (mO, .inl (eO, 512, .inl v.2)), (mT, .inl (eT, 16384, .inl Tm)), (mS, .inl (eS, 16384, .inl Sm)), (mB, .inl (eB, 16384, .inl Bm))] ∧ va_S A s.heap H locs ∧ lv_has ls 5 [(4, .int (nI v.1)), (3, .int (nI (off (lo + v0) - off lo))), (2, .int (nI v0)), (0, .ref mM), (1, .int most)]) (fun v H locs ls h => ?_) (fun n v H locs ls h ih => ?_) (off (lo + v0 + 1) - off (lo + v0) + 1) (0, Om) _ _ _ ⟨⟨rfl, Nat.zero_le _, fun t h => absurd h (Nat.not_lt_zero t)⟩, hP, hD, hS, lv_sub hl [0, 1, 2, 3, 4] rfl⟩
                · obtain ⟨⟨h1, h2, -⟩, -⟩ := h
                  omega
                obtain ⟨j, Og⟩ := v
                obtain ⟨⟨hi1, hi2, hO⟩, hP, hD, hS, hl⟩ := h
                dsimp only at hi1 hi2 hO
                have hP : va_P (dC, dI) vwCl [(mM, .inr (2, [.int (nI 0), .int (nI R), .ref mX, .int (nI ts), .ref mO, .int (nI os), .int (nI (hi - lo)), .ref mT, .ref mS, .ref mB, .int (nI (off hi - off lo)), .int (nI hi), .int (nI dr), .int (nI de), .int (nI 1), .int fr, .int to, .int (nI (lo + v0))])), (mO, .inl (eO, 512, .inl Og)), (mT, .inl (eT, 16384, .inl Tm)), (mS, .inl (eS, 16384, .inl Sm)), (mB, .inl (eB, 16384, .inl Bm))] H := hP
                have hD : va_D A [(mM, .inr (2, [.int (nI 0), .int (nI R), .ref mX, .int (nI ts), .ref mO, .int (nI os), .int (nI (hi - lo)), .ref mT, .ref mS, .ref mB, .int (nI (off hi - off lo)), .int (nI hi), .int (nI dr), .int (nI de), .int (nI 1), .int fr, .int to, .int (nI (lo + v0))])), (mO, .inl (eO, 512, .inl Og)), (mT, .inl (eT, 16384, .inl Tm)), (mS, .inl (eS, 16384, .inl Sm)), (mB, .inl (eB, 16384, .inl Bm))] := hD
                have hl : lv_has ls 5 [(4, .int (nI j)), (3, .int (nI (off (lo + v0) - off lo))), (2, .int (nI v0)), (0, .ref mM), (1, .int most)] := hl
                refine lv_iload hx hb dM_next_131 (lv_at hl 0 rfl) ?_
                refine lv_aload_n hx hb dM_next_133 rfl (lv_at hl 3 rfl) ?_
                refine va_get (D := (dC, dI)) (ci := 2) (v := .ref mS) (C := RM) (T := TM) (N := 18) hx hb hts hi_M hown hK hP 0 rfl rfl 8 (by decide) (hts (.fieldLink RM 20 "PacketStoreModel" "size" "[I") (by decide +kernel)) (fun _ h9 => h9) rfl dM_next_134 ?_
                refine lv_iload_n hx hb dM_next_137 rfl (lv_at hl 2 rfl) ?_
                refine zz_iald hx hb hK hP 3 2 rfl rfl (j := v0) (by omega) (by omega) dM_next_138 ?_
                refine zz_as (nI (off (lo + v0 + 1) - off (lo + v0))) (hrm.2.1 v0 (by omega)) ?_
                refine zz_icmp_ge (a := j) (b := off (lo + v0 + 1) - off (lo + v0)) (tgt := 164) hx hb dM_next_139 (by decide) (by omega) (by omega) (fun c139 => ?_) (fun c139 => ?_)
                · refine lv_aload_n hx hb dM_next_164 rfl (lv_at hl 3 rfl) ?_
                  refine lv_aload_n hx hb dM_next_165 rfl (lv_at hl 3 rfl) ?_
                  refine va_get (D := (dC, dI)) (ci := 2) (v := .ref mS) (C := RM) (T := TM) (N := 18) hx hb hts hi_M hown hK hP 0 rfl rfl 8 (by decide) (hts (.fieldLink RM 20 "PacketStoreModel" "size" "[I") (by decide +kernel)) (fun _ h9 => h9) rfl dM_next_166 ?_
                  refine lv_iload_n hx hb dM_next_169 rfl (lv_at hl 2 rfl) ?_
                  refine zz_iald hx hb hK hP 3 2 rfl rfl (j := v0) (by omega) (by omega) dM_next_170 ?_
                  refine zz_as (nI (off (lo + v0 + 1) - off (lo + v0))) (hrm.2.1 v0 (by omega)) ?_
                  refine va_put (D := (dC, dI)) (ci := 2) (v := .int (nI (off (lo + v0 + 1) - off (lo + v0)))) (ty := .int) (C := RM) (T := TM) (N := 18) hx hb hts hi_M tyM tyM_ok nmM hown hK hP hD hS 0 rfl rfl 5 (by decide) (hts (.fieldLink RM 71 "PacketStoreModel" "outSize" "I") (by decide +kernel)) (fun _ h9 => h9) rfl (by decide +kernel) rfl rfl (Nat.le_of_ble_eq_true rfl) dM_next_171 (fun H locs hP hD hS => ?_)
                  have hP : va_P (dC, dI) vwCl [(mM, .inr (2, [.int (nI 0), .int (nI R), .ref mX, .int (nI ts), .ref mO, .int (nI (off (lo + v0 + 1) - off (lo + v0))), .int (nI (hi - lo)), .ref mT, .ref mS, .ref mB, .int (nI (off hi - off lo)), .int (nI hi), .int (nI dr), .int (nI de), .int (nI 1), .int fr, .int to, .int (nI (lo + v0))])), (mO, .inl (eO, 512, .inl Og)), (mT, .inl (eT, 16384, .inl Tm)), (mS, .inl (eS, 16384, .inl Sm)), (mB, .inl (eB, 16384, .inl Bm))] H := hP
                  have hD : va_D A [(mM, .inr (2, [.int (nI 0), .int (nI R), .ref mX, .int (nI ts), .ref mO, .int (nI (off (lo + v0 + 1) - off (lo + v0))), .int (nI (hi - lo)), .ref mT, .ref mS, .ref mB, .int (nI (off hi - off lo)), .int (nI hi), .int (nI dr), .int (nI de), .int (nI 1), .int fr, .int to, .int (nI (lo + v0))])), (mO, .inl (eO, 512, .inl Og)), (mT, .inl (eT, 16384, .inl Tm)), (mS, .inl (eS, 16384, .inl Sm)), (mB, .inl (eB, 16384, .inl Bm))] := hD
                  refine lv_aload_n hx hb dM_next_174 rfl (lv_at hl 3 rfl) ?_
                  refine lv_dup hx hb dM_next_175 rfl ?_
                  refine va_get (D := (dC, dI)) (ci := 2) (v := .int (nI (lo + v0))) (C := RM) (T := TM) (N := 18) hx hb hts hi_M hown hK hP 0 rfl rfl 17 (by decide) (hts (.fieldLink RM 64 "PacketStoreModel" "looks" "I") (by decide +kernel)) (fun _ h9 => h9) rfl dM_next_176 ?_
                  refine lv_iconst (v := nI 1) hx hb dM_next_179 (by decide) ?_
                  refine lv_iadd hx hb dM_next_180 ?_
                  refine zz_as (nI ((lo + v0) + 1)) (nI_add _ _) ?_
                  refine va_put (D := (dC, dI)) (ci := 2) (v := .int (nI ((lo + v0) + 1))) (ty := .int) (C := RM) (T := TM) (N := 18) hx hb hts hi_M tyM tyM_ok nmM hown hK hP hD hS 0 rfl rfl 17 (by decide) (hts (.fieldLink RM 64 "PacketStoreModel" "looks" "I") (by decide +kernel)) (fun _ h9 => h9) rfl (by decide +kernel) rfl rfl (Nat.le_of_ble_eq_true rfl) dM_next_181 (fun H locs hP hD hS => ?_)
                  have hP : va_P (dC, dI) vwCl [(mM, .inr (2, [.int (nI 0), .int (nI R), .ref mX, .int (nI ts), .ref mO, .int (nI (off (lo + v0 + 1) - off (lo + v0))), .int (nI (hi - lo)), .ref mT, .ref mS, .ref mB, .int (nI (off hi - off lo)), .int (nI hi), .int (nI dr), .int (nI de), .int (nI 1), .int fr, .int to, .int (nI ((lo + v0) + 1))])), (mO, .inl (eO, 512, .inl Og)), (mT, .inl (eT, 16384, .inl Tm)), (mS, .inl (eS, 16384, .inl Sm)), (mB, .inl (eB, 16384, .inl Bm))] H := hP
                  have hD : va_D A [(mM, .inr (2, [.int (nI 0), .int (nI R), .ref mX, .int (nI ts), .ref mO, .int (nI (off (lo + v0 + 1) - off (lo + v0))), .int (nI (hi - lo)), .ref mT, .ref mS, .ref mB, .int (nI (off hi - off lo)), .int (nI hi), .int (nI dr), .int (nI de), .int (nI 1), .int fr, .int to, .int (nI ((lo + v0) + 1))])), (mO, .inl (eO, 512, .inl Og)), (mT, .inl (eT, 16384, .inl Tm)), (mS, .inl (eS, 16384, .inl Sm)), (mB, .inl (eB, 16384, .inl Bm))] := hD
                  refine lv_aload_n hx hb dM_next_184 rfl (lv_at hl 3 rfl) ?_
                  refine va_get (D := (dC, dI)) (ci := 2) (v := .int (nI (off (lo + v0 + 1) - off (lo + v0)))) (C := RM) (T := TM) (N := 18) hx hb hts hi_M hown hK hP 0 rfl rfl 5 (by decide) (hts (.fieldLink RM 71 "PacketStoreModel" "outSize" "I") (by decide +kernel)) (fun _ h9 => h9) rfl dM_next_185 ?_
                  exact W.iret (v := (nI (off (lo + v0 + 1) - off (lo + v0)))) hx hb hr (fun t ht hW => ⟨⟨_, (v0 + 1, 1, off (lo + v0 + 1) - off (lo + v0), Og), rfl, ⟨v0, hj4, hj2, hj3, Or.inr ⟨by omega, hwant, Or.inr ⟨c116, rfl, rfl, rfl, rfl, fun t h => hO t (by omega)⟩⟩⟩, by rw [ht]; exact hP, va_K.moved hW.alike hK, hD⟩, hS.F ht⟩) hS.2.2 dM_next_188
                · refine lv_aload_n hx hb dM_next_142 rfl (lv_at hl 3 rfl) ?_
                  refine va_get (D := (dC, dI)) (ci := 2) (v := .ref mO) (C := RM) (T := TM) (N := 18) hx hb hts hi_M hown hK hP 0 rfl rfl 4 (by decide) (hts (.fieldLink RM 13 "PacketStoreModel" "out" "[B") (by decide +kernel)) (fun _ h9 => h9) rfl dM_next_143 ?_
                  refine lv_iload hx hb dM_next_146 (lv_at hl 0 rfl) ?_
                  refine lv_aload_n hx hb dM_next_148 rfl (lv_at hl 3 rfl) ?_
                  refine va_get (D := (dC, dI)) (ci := 2) (v := .ref mB) (C := RM) (T := TM) (N := 18) hx hb hts hi_M hown hK hP 0 rfl rfl 9 (by decide) (hts (.fieldLink RM 23 "PacketStoreModel" "bytes" "[B") (by decide +kernel)) (fun _ h9 => h9) rfl dM_next_149 ?_
                  refine lv_iload_n hx hb dM_next_152 rfl (lv_at hl 1 rfl) ?_
                  refine lv_iload hx hb dM_next_153 (lv_at hl 0 rfl) ?_
                  refine lv_iadd hx hb dM_next_155 ?_
                  refine zz_as (nI ((off (lo + v0) - off lo) + j)) (nI_add _ _) ?_
                  refine zz_bald hx hb hK hP 4 3 rfl rfl (j := (off (lo + v0) - off lo) + j) (by omega) (by omega) dM_next_156 ?_
                  refine zz_as ((bz (off (lo + v0) + j)).toInt8.toInt32) (by rw [hrm.2.2 _ (by omega), show off lo + (off (lo + v0) - off lo + j) = off (lo + v0) + j by omega]) ?_
                  refine zz_bast hx hb hK hP hD hS 1 0 rfl rfl (j := j) (x := (((bz (off (lo + v0) + j)).toInt8.toInt32))) (by omega) (by omega) dM_next_157 (fun H locs hP hD hS => ?_)
                  have hP : va_P (dC, dI) vwCl [(mM, .inr (2, [.int (nI 0), .int (nI R), .ref mX, .int (nI ts), .ref mO, .int (nI os), .int (nI (hi - lo)), .ref mT, .ref mS, .ref mB, .int (nI (off hi - off lo)), .int (nI hi), .int (nI dr), .int (nI de), .int (nI 1), .int fr, .int to, .int (nI (lo + v0))])), (mO, .inl (eO, 512, .inl (upd Og j ((((bz (off (lo + v0) + j)).toInt8.toInt32)).toInt8.toInt32)))), (mT, .inl (eT, 16384, .inl Tm)), (mS, .inl (eS, 16384, .inl Sm)), (mB, .inl (eB, 16384, .inl Bm))] H := hP
                  have hD : va_D A [(mM, .inr (2, [.int (nI 0), .int (nI R), .ref mX, .int (nI ts), .ref mO, .int (nI os), .int (nI (hi - lo)), .ref mT, .ref mS, .ref mB, .int (nI (off hi - off lo)), .int (nI hi), .int (nI dr), .int (nI de), .int (nI 1), .int fr, .int to, .int (nI (lo + v0))])), (mO, .inl (eO, 512, .inl (upd Og j ((((bz (off (lo + v0) + j)).toInt8.toInt32)).toInt8.toInt32)))), (mT, .inl (eT, 16384, .inl Tm)), (mS, .inl (eS, 16384, .inl Sm)), (mB, .inl (eB, 16384, .inl Bm))] := hD
                  refine lv_iinc (v := nI (j + 1)) (lv' := [(4, .int (nI (j + 1))), (3, .int (nI (off (lo + v0) - off lo))), (2, .int (nI v0)), (0, .ref mM), (1, .int most)]) hx hb dM_next_158 hl (k := 0) rfl (show nI j + 1 = nI (j + 1) from nI_1 _) (by decide) rfl (fun ls hl => ?_)
                  refine lv_goto (tgt := 131) hx hb dM_next_161 (by decide) ?_
                  exact ih (j + 1, upd Og j ((((bz (off (lo + v0) + j)).toInt8.toInt32)).toInt8.toInt32)) _ _ _ ⟨⟨by show _ + (j + 1) = (off (lo + v0 + 1) - off (lo + v0)) + 1; omega, by show j + 1 ≤ off (lo + v0 + 1) - off (lo + v0); omega, zz_updlt (g := fun t => (bz (off (lo + v0) + t)).toInt8.toInt32) hO (zz_i8 _)⟩, hP, hD, hS, lv_sub hl [0, 1, 2, 3, 4] rfl⟩
              · refine lv_bipush (v := (-2)) hx hb dM_next_119 (by decide) ?_
                exact W.iret (v := ((-2))) hx hb hr (fun t ht hW => ⟨⟨_, (v, 1, os, Om), rfl, ⟨v, hj4, hj2, hj3, Or.inr ⟨by omega, hwant, Or.inl ⟨c116, rfl, rfl⟩⟩⟩, by rw [ht]; exact hP, va_K.moved hW.alike hK, hD⟩, hS.F ht⟩) hS.2.2 dM_next_121
            · exact absurd c99 (by omega)
          · refine lv_iinc (v := nI (v + 1)) (lv' := [(2, .int (nI (v + 1))), (0, .ref mM), (1, .int most)]) hx hb dM_next_73 hl (k := 0) rfl (show nI v + 1 = nI (v + 1) from nI_1 _) (by decide) rfl (fun ls hl => ?_)
            refine lv_goto (tgt := 39) hx hb dM_next_76 (by decide) ?_
            exact ih (v + 1) _ _ _ ⟨⟨by omega, by omega, by omega, fun t h1 h2 => (Nat.lt_or_ge t v).elim (fun q => hj3 t h1 q) (fun q => by rw [show t = v by omega]; exact fun h => c70 h.2)⟩, hP, hD, hS, lv_sub hl [0, 1, 2] rfl⟩
    · refine lv_iconst (v := nI 0) hx hb dM_next_33 (by decide) ?_
      refine lv_goto (tgt := 38) hx hb dM_next_34 (by decide) ?_
      refine zz_as (nI (pa - lo)) (congrArg nI (by have h9 := mt (rg_ge0 (a := pa) (b := lo) (by omega) (by omega)).mpr c30; omega)) ?_
      refine lv_istore_n (lv' := [(2, .int (nI (pa - lo))), (0, .ref mM), (1, .int most)]) hx hb dM_next_38 rfl hl (by decide) rfl (fun ls hl => ?_)
      refine zz_loop (σ := Nat) (fun n v H locs ls => (n + v = hi - lo + 1 ∧ v ≤ hi - lo ∧ pa - lo ≤ v ∧ ∀ t, pa - lo ≤ t → t < v → ¬ (fr ≤ tm (lo + t) ∧ tm (lo + t) ≤ to)) ∧ va_P (dC, dI) vwCl [(mM, .inr (2, [.int (nI 0), .int (nI R), .ref mX, .int (nI ts), .ref mO, .int (nI os), .int (nI (hi - lo)), .ref mT, .ref mS, .ref mB, .int (nI (off hi - off lo)), .int (nI hi), .int (nI dr), .int (nI de), .int (nI 1), .int fr, .int to, .int (nI pa)])), (mO, .inl (eO, 512, .inl Om)), (mT, .inl (eT, 16384, .inl Tm)), (mS, .inl (eS, 16384, .inl Sm)), (mB, .inl (eB, 16384, .inl Bm))] H ∧ va_D A [(mM, .inr (2, [.int (nI 0), .int (nI R), .ref mX, .int (nI ts), .ref mO, .int (nI os), .int (nI (hi - lo)), .ref mT, .ref mS, .ref mB, .int (nI (off hi - off lo)), .int (nI hi), .int (nI dr), .int (nI de), .int (nI 1), .int fr, .int to, .int (nI pa)])), (mO, .inl (eO, 512, .inl Om)), (mT, .inl (eT, 16384, .inl Tm)), (mS, .inl (eS, 16384, .inl Sm)), (mB, .inl (eB, 16384, .inl Bm))] ∧ va_S A s.heap H locs ∧ lv_has ls 5 [(2, .int (nI v)), (0, .ref mM), (1, .int most)]) (fun v H locs ls h => ?_) (fun n v H locs ls h ih => ?_) (hi - lo + 1 - (pa - lo)) (pa - lo) _ _ _ ⟨⟨by omega, by omega, Nat.le_refl _, fun t h1 h2 => absurd h2 (Nat.not_lt.mpr h1)⟩, hP, hD, hS, lv_sub hl [0, 1, 2] rfl⟩
      · obtain ⟨⟨h1, h2, -⟩, -⟩ := h
        omega
      obtain ⟨⟨hj1, hj2, hj4, hj3⟩, hP, hD, hS, hl⟩ := h
      have hP : va_P (dC, dI) vwCl [(mM, .inr (2, [.int (nI 0), .int (nI R), .ref mX, .int (nI ts), .ref mO, .int (nI os), .int (nI (hi - lo)), .ref mT, .ref mS, .ref mB, .int (nI (off hi - off lo)), .int (nI hi), .int (nI dr), .int (nI de), .int (nI 1), .int fr, .int to, .int (nI pa)])), (mO, .inl (eO, 512, .inl Om)), (mT, .inl (eT, 16384, .inl Tm)), (mS, .inl (eS, 16384, .inl Sm)), (mB, .inl (eB, 16384, .inl Bm))] H := hP
      have hD : va_D A [(mM, .inr (2, [.int (nI 0), .int (nI R), .ref mX, .int (nI ts), .ref mO, .int (nI os), .int (nI (hi - lo)), .ref mT, .ref mS, .ref mB, .int (nI (off hi - off lo)), .int (nI hi), .int (nI dr), .int (nI de), .int (nI 1), .int fr, .int to, .int (nI pa)])), (mO, .inl (eO, 512, .inl Om)), (mT, .inl (eT, 16384, .inl Tm)), (mS, .inl (eS, 16384, .inl Sm)), (mB, .inl (eB, 16384, .inl Bm))] := hD
      have hl : lv_has ls 5 [(2, .int (nI v)), (0, .ref mM), (1, .int most)] := hl
      refine lv_iload_n hx hb dM_next_39 rfl (lv_at hl 0 rfl) ?_
      refine lv_aload_n hx hb dM_next_40 rfl (lv_at hl 1 rfl) ?_
      refine va_get (D := (dC, dI)) (ci := 2) (v := .int (nI (hi - lo))) (C := RM) (T := TM) (N := 18) hx hb hts hi_M hown hK hP 0 rfl rfl 6 (by decide) (hts (.fieldLink RM 36 "PacketStoreModel" "many" "I") (by decide +kernel)) (fun _ h9 => h9) rfl dM_next_41 ?_
      refine zz_icmp_ge (a := v) (b := hi - lo) (tgt := 79) hx hb dM_next_44 (by decide) (by omega) (by omega) (fun c44 => ?_) (fun c44 => ?_)
      · refine lv_aload_n hx hb dM_next_79 rfl (lv_at hl 1 rfl) ?_
        refine lv_aload_n hx hb dM_next_80 rfl (lv_at hl 1 rfl) ?_
        refine va_get (D := (dC, dI)) (ci := 2) (v := .int (nI hi)) (C := RM) (T := TM) (N := 18) hx hb hts hi_M hown hK hP 0 rfl rfl 11 (by decide) (hts (.fieldLink RM 48 "PacketStoreModel" "came" "I") (by decide +kernel)) (fun _ h9 => h9) rfl dM_next_81 ?_
        refine lv_aload_n hx hb dM_next_84 rfl (lv_at hl 1 rfl) ?_
        refine va_get (D := (dC, dI)) (ci := 2) (v := .int (nI (hi - lo))) (C := RM) (T := TM) (N := 18) hx hb hts hi_M hown hK hP 0 rfl rfl 6 (by decide) (hts (.fieldLink RM 36 "PacketStoreModel" "many" "I") (by decide +kernel)) (fun _ h9 => h9) rfl dM_next_85 ?_
        refine lv_isub hx hb dM_next_88 ?_
        refine zz_as (nI (hi - (hi - lo))) (pk_sub (by omega)) ?_
        refine lv_iload_n hx hb dM_next_89 rfl (lv_at hl 0 rfl) ?_
        refine lv_iadd hx hb dM_next_90 ?_
        refine zz_as (nI ((hi - (hi - lo)) + v)) (nI_add _ _) ?_
        refine zz_as (nI (lo + v)) (congrArg nI (by omega)) ?_
        refine va_put (D := (dC, dI)) (ci := 2) (v := .int (nI (lo + v))) (ty := .int) (C := RM) (T := TM) (N := 18) hx hb hts hi_M tyM tyM_ok nmM hown hK hP hD hS 0 rfl rfl 17 (by decide) (hts (.fieldLink RM 64 "PacketStoreModel" "looks" "I") (by decide +kernel)) (fun _ h9 => h9) rfl (by decide +kernel) rfl rfl (Nat.le_of_ble_eq_true rfl) dM_next_91 (fun H locs hP hD hS => ?_)
        have hP : va_P (dC, dI) vwCl [(mM, .inr (2, [.int (nI 0), .int (nI R), .ref mX, .int (nI ts), .ref mO, .int (nI os), .int (nI (hi - lo)), .ref mT, .ref mS, .ref mB, .int (nI (off hi - off lo)), .int (nI hi), .int (nI dr), .int (nI de), .int (nI 1), .int fr, .int to, .int (nI (lo + v))])), (mO, .inl (eO, 512, .inl Om)), (mT, .inl (eT, 16384, .inl Tm)), (mS, .inl (eS, 16384, .inl Sm)), (mB, .inl (eB, 16384, .inl Bm))] H := hP
        have hD : va_D A [(mM, .inr (2, [.int (nI 0), .int (nI R), .ref mX, .int (nI ts), .ref mO, .int (nI os), .int (nI (hi - lo)), .ref mT, .ref mS, .ref mB, .int (nI (off hi - off lo)), .int (nI hi), .int (nI dr), .int (nI de), .int (nI 1), .int fr, .int to, .int (nI (lo + v))])), (mO, .inl (eO, 512, .inl Om)), (mT, .inl (eT, 16384, .inl Tm)), (mS, .inl (eS, 16384, .inl Sm)), (mB, .inl (eB, 16384, .inl Bm))] := hD
        refine lv_iload_n hx hb dM_next_94 rfl (lv_at hl 0 rfl) ?_
        refine lv_aload_n hx hb dM_next_95 rfl (lv_at hl 1 rfl) ?_
        refine va_get (D := (dC, dI)) (ci := 2) (v := .int (nI (hi - lo))) (C := RM) (T := TM) (N := 18) hx hb hts hi_M hown hK hP 0 rfl rfl 6 (by decide) (hts (.fieldLink RM 36 "PacketStoreModel" "many" "I") (by decide +kernel)) (fun _ h9 => h9) rfl dM_next_96 ?_
        refine zz_icmp_ne (a := v) (b := hi - lo) (tgt := 109) hx hb dM_next_99 (by decide) (by omega) (by omega) (fun c99 => ?_) (fun c99 => ?_)
        · exact absurd (show v = hi - lo by omega) c99
        · refine lv_aload_n hx hb dM_next_102 rfl (lv_at hl 1 rfl) ?_
          refine lv_iconst (v := nI 0) hx hb dM_next_103 (by decide) ?_
          refine va_put (D := (dC, dI)) (ci := 2) (v := .int (nI 0)) (ty := .boolean) (C := RM) (T := TM) (N := 18) hx hb hts hi_M tyM tyM_ok nmM hown hK hP hD hS 0 rfl rfl 14 (by decide) (hts (.fieldLink RM 54 "PacketStoreModel" "retrieves" "Z") (by decide +kernel)) (fun _ h9 => h9) rfl (by decide +kernel) rfl rfl (Nat.le_of_ble_eq_true rfl) dM_next_104 (fun H locs hP hD hS => ?_)
          have hP : va_P (dC, dI) vwCl [(mM, .inr (2, [.int (nI 0), .int (nI R), .ref mX, .int (nI ts), .ref mO, .int (nI os), .int (nI (hi - lo)), .ref mT, .ref mS, .ref mB, .int (nI (off hi - off lo)), .int (nI hi), .int (nI dr), .int (nI de), .int (nI 0), .int fr, .int to, .int (nI (lo + v))])), (mO, .inl (eO, 512, .inl Om)), (mT, .inl (eT, 16384, .inl Tm)), (mS, .inl (eS, 16384, .inl Sm)), (mB, .inl (eB, 16384, .inl Bm))] H := hP
          have hD : va_D A [(mM, .inr (2, [.int (nI 0), .int (nI R), .ref mX, .int (nI ts), .ref mO, .int (nI os), .int (nI (hi - lo)), .ref mT, .ref mS, .ref mB, .int (nI (off hi - off lo)), .int (nI hi), .int (nI dr), .int (nI de), .int (nI 0), .int fr, .int to, .int (nI (lo + v))])), (mO, .inl (eO, 512, .inl Om)), (mT, .inl (eT, 16384, .inl Tm)), (mS, .inl (eS, 16384, .inl Sm)), (mB, .inl (eB, 16384, .inl Bm))] := hD
          refine lv_iconst (v := (-1)) hx hb dM_next_107 (by decide) ?_
          exact W.iret (v := ((-1))) hx hb hr (fun t ht hW => ⟨⟨_, (v, 0, os, Om), rfl, ⟨v, hj4, hj2, hj3, Or.inl ⟨c99, rfl, rfl⟩⟩, by rw [ht]; exact hP, va_K.moved hW.alike hK, hD⟩, hS.F ht⟩) hS.2.2 dM_next_108
      · refine lv_aload_n hx hb dM_next_47 rfl (lv_at hl 1 rfl) ?_
        refine va_get (D := (dC, dI)) (ci := 2) (v := .ref mT) (C := RM) (T := TM) (N := 18) hx hb hts hi_M hown hK hP 0 rfl rfl 7 (by decide) (hts (.fieldLink RM 16 "PacketStoreModel" "time" "[I") (by decide +kernel)) (fun _ h9 => h9) rfl dM_next_48 ?_
        refine lv_iload_n hx hb dM_next_51 rfl (lv_at hl 0 rfl) ?_
        refine zz_iald hx hb hK hP 2 1 rfl rfl (j := v) (by omega) (by omega) dM_next_52 ?_
        refine zz_as (tm (lo + v)) (hrm.1 v (by omega)) ?_
        refine lv_aload_n hx hb dM_next_53 rfl (lv_at hl 1 rfl) ?_
        refine va_get (D := (dC, dI)) (ci := 2) (v := .int fr) (C := RM) (T := TM) (N := 18) hx hb hts hi_M hown hK hP 0 rfl rfl 15 (by decide) (hts (.fieldLink RM 58 "PacketStoreModel" "from" "I") (by decide +kernel)) (fun _ h9 => h9) rfl dM_next_54 ?_
        refine lv_icmp_lt (tgt := 73) hx hb dM_next_57 (by decide) (fun c57 => ?_) (fun c57 => ?_)
        · refine lv_iinc (v := nI (v + 1)) (lv' := [(2, .int (nI (v + 1))), (0, .ref mM), (1, .int most)]) hx hb dM_next_73 hl (k := 0) rfl (show nI v + 1 = nI (v + 1) from nI_1 _) (by decide) rfl (fun ls hl => ?_)
          refine lv_goto (tgt := 39) hx hb dM_next_76 (by decide) ?_
          exact ih (v + 1) _ _ _ ⟨⟨by omega, by omega, by omega, fun t h1 h2 => (Nat.lt_or_ge t v).elim (fun q => hj3 t h1 q) (fun q => by rw [show t = v by omega]; exact fun h => zz_nlt h.1 c57)⟩, hP, hD, hS, lv_sub hl [0, 1, 2] rfl⟩
        · refine lv_aload_n hx hb dM_next_60 rfl (lv_at hl 1 rfl) ?_
          refine va_get (D := (dC, dI)) (ci := 2) (v := .ref mT) (C := RM) (T := TM) (N := 18) hx hb hts hi_M hown hK hP 0 rfl rfl 7 (by decide) (hts (.fieldLink RM 16 "PacketStoreModel" "time" "[I") (by decide +kernel)) (fun _ h9 => h9) rfl dM_next_61 ?_
          refine lv_iload_n hx hb dM_next_64 rfl (lv_at hl 0 rfl) ?_
          refine zz_iald hx hb hK hP 2 1 rfl rfl (j := v) (by omega) (by omega) dM_next_65 ?_
          refine zz_as (tm (lo + v)) (hrm.1 v (by omega)) ?_
          refine lv_aload_n hx hb dM_next_66 rfl (lv_at hl 1 rfl) ?_
          refine va_get (D := (dC, dI)) (ci := 2) (v := .int to) (C := RM) (T := TM) (N := 18) hx hb hts hi_M hown hK hP 0 rfl rfl 16 (by decide) (hts (.fieldLink RM 61 "PacketStoreModel" "to" "I") (by decide +kernel)) (fun _ h9 => h9) rfl dM_next_67 ?_
          refine lv_icmp_le (tgt := 79) hx hb dM_next_70 (by decide) (fun c70 => ?_) (fun c70 => ?_)
          · refine lv_aload_n hx hb dM_next_79 rfl (lv_at hl 1 rfl) ?_
            refine lv_aload_n hx hb dM_next_80 rfl (lv_at hl 1 rfl) ?_
            refine va_get (D := (dC, dI)) (ci := 2) (v := .int (nI hi)) (C := RM) (T := TM) (N := 18) hx hb hts hi_M hown hK hP 0 rfl rfl 11 (by decide) (hts (.fieldLink RM 48 "PacketStoreModel" "came" "I") (by decide +kernel)) (fun _ h9 => h9) rfl dM_next_81 ?_
            refine lv_aload_n hx hb dM_next_84 rfl (lv_at hl 1 rfl) ?_
            refine va_get (D := (dC, dI)) (ci := 2) (v := .int (nI (hi - lo))) (C := RM) (T := TM) (N := 18) hx hb hts hi_M hown hK hP 0 rfl rfl 6 (by decide) (hts (.fieldLink RM 36 "PacketStoreModel" "many" "I") (by decide +kernel)) (fun _ h9 => h9) rfl dM_next_85 ?_
            refine lv_isub hx hb dM_next_88 ?_
            refine zz_as (nI (hi - (hi - lo))) (pk_sub (by omega)) ?_
            refine lv_iload_n hx hb dM_next_89 rfl (lv_at hl 0 rfl) ?_
            refine lv_iadd hx hb dM_next_90 ?_
            refine zz_as (nI ((hi - (hi - lo)) + v)) (nI_add _ _) ?_
            refine zz_as (nI (lo + v)) (congrArg nI (by omega)) ?_
            refine va_put (D := (dC, dI)) (ci := 2) (v := .int (nI (lo + v))) (ty := .int) (C := RM) (T := TM) (N := 18) hx hb hts hi_M tyM tyM_ok nmM hown hK hP hD hS 0 rfl rfl 17 (by decide) (hts (.fieldLink RM 64 "PacketStoreModel" "looks" "I") (by decide +kernel)) (fun _ h9 => h9) rfl (by decide +kernel) rfl rfl (Nat.le_of_ble_eq_true rfl) dM_next_91 (fun H locs hP hD hS => ?_)
            have hP : va_P (dC, dI) vwCl [(mM, .inr (2, [.int (nI 0), .int (nI R), .ref mX, .int (nI ts), .ref mO, .int (nI os), .int (nI (hi - lo)), .ref mT, .ref mS, .ref mB, .int (nI (off hi - off lo)), .int (nI hi), .int (nI dr), .int (nI de), .int (nI 1), .int fr, .int to, .int (nI (lo + v))])), (mO, .inl (eO, 512, .inl Om)), (mT, .inl (eT, 16384, .inl Tm)), (mS, .inl (eS, 16384, .inl Sm)), (mB, .inl (eB, 16384, .inl Bm))] H := hP
            have hD : va_D A [(mM, .inr (2, [.int (nI 0), .int (nI R), .ref mX, .int (nI ts), .ref mO, .int (nI os), .int (nI (hi - lo)), .ref mT, .ref mS, .ref mB, .int (nI (off hi - off lo)), .int (nI hi), .int (nI dr), .int (nI de), .int (nI 1), .int fr, .int to, .int (nI (lo + v))])), (mO, .inl (eO, 512, .inl Om)), (mT, .inl (eT, 16384, .inl Tm)), (mS, .inl (eS, 16384, .inl Sm)), (mB, .inl (eB, 16384, .inl Bm))] := hD
            refine lv_iload_n hx hb dM_next_94 rfl (lv_at hl 0 rfl) ?_
            refine lv_aload_n hx hb dM_next_95 rfl (lv_at hl 1 rfl) ?_
            refine va_get (D := (dC, dI)) (ci := 2) (v := .int (nI (hi - lo))) (C := RM) (T := TM) (N := 18) hx hb hts hi_M hown hK hP 0 rfl rfl 6 (by decide) (hts (.fieldLink RM 36 "PacketStoreModel" "many" "I") (by decide +kernel)) (fun _ h9 => h9) rfl dM_next_96 ?_
            refine zz_icmp_ne (a := v) (b := hi - lo) (tgt := 109) hx hb dM_next_99 (by decide) (by omega) (by omega) (fun c99 => ?_) (fun c99 => ?_)
            · have hk : lo + v < hi := by omega
              have hwant : fr ≤ tm (lo + v) ∧ tm (lo + v) ≤ to := ⟨zz_lnt c57, c70⟩
              have hk1 : off (lo + v) < off (lo + v + 1) := hok.2.2.2 (lo + v) (by omega) hk
              have hk2 : off lo + (lo + v - lo) ≤ off (lo + v) := hok.gap (Nat.le_refl lo) (by omega) (by omega)
              have hk3 : off (lo + v + 1) + (hi - (lo + v + 1)) ≤ off hi := hok.gap (by omega) (by omega) (Nat.le_refl hi)
              have hk4 := h512 (lo + v) (by omega) hk
              refine lv_aload_n hx hb dM_next_109 rfl (lv_at hl 1 rfl) ?_
              refine va_get (D := (dC, dI)) (ci := 2) (v := .ref mS) (C := RM) (T := TM) (N := 18) hx hb hts hi_M hown hK hP 0 rfl rfl 8 (by decide) (hts (.fieldLink RM 20 "PacketStoreModel" "size" "[I") (by decide +kernel)) (fun _ h9 => h9) rfl dM_next_110 ?_
              refine lv_iload_n hx hb dM_next_113 rfl (lv_at hl 0 rfl) ?_
              refine zz_iald hx hb hK hP 3 2 rfl rfl (j := v) (by omega) (by omega) dM_next_114 ?_
              refine zz_as (nI (off (lo + v + 1) - off (lo + v))) (hrm.2.1 v (by omega)) ?_
              refine lv_iload_n hx hb dM_next_115 rfl (lv_at hl 2 rfl) ?_
              refine lv_icmp_le (tgt := 122) hx hb dM_next_116 (by decide) (fun c116 => ?_) (fun c116 => ?_)
              · refine lv_aload_n hx hb dM_next_122 rfl (lv_at hl 1 rfl) ?_
                refine lv_iload_n hx hb dM_next_123 rfl (lv_at hl 0 rfl) ?_
                refine zz_callR (As := [.int (nI v)]) (rest := []) ⟨hx, hb, hml, hown, hts⟩ (c_M_start l dC dI mM mX mO mT mS mB R lo hi off ts os dr de 1 fr to ((lo + v)) eS Sm v hok hrm.2.1 (by omega)) (cwV 1 hts gM_next_start rfl rfl rfl (by decide +kernel) ⟨Nat.le_of_ble_eq_true rfl, Nat.le_of_ble_eq_true rfl⟩) (hP.sub [0, 3] rfl) (hK.sub [2] rfl) 0 rfl rfl rfl rfl hl.1 rfl (Nat.le_of_ble_eq_true rfl) dM_next_124 ⟨Nat.zero_le _, Nat.zero_le _⟩ (fun r124 e124 => ?_)
                subst e124
                refine lv_istore_n (lv' := [(3, .int (nI (off (lo + v) - off lo))), (2, .int (nI v)), (0, .ref mM), (1, .int most)]) hx hb dM_next_127 rfl hl (by decide) rfl (fun ls hl => ?_)
                refine lv_iconst (v := nI 0) hx hb dM_next_128 (by decide) ?_
                refine lv_istore (lv' := [(4, .int (nI 0)), (3, .int (nI (off (lo + v) - off lo))), (2, .int (nI v)), (0, .ref mM), (1, .int most)]) hx hb dM_next_129 hl (by decide) rfl (fun ls hl => ?_)
                obtain ⟨v0, ev0⟩ : ∃ v0, v0 = v := ⟨_, rfl⟩
                subst ev0
                refine zz_loop (σ := Nat × (Nat → Int32)) (fun n v H locs ls => (n + v.1 = (off (lo + v0 + 1) - off (lo + v0)) + 1 ∧ v.1 ≤ off (lo + v0 + 1) - off (lo + v0) ∧ ∀ t, t < v.1 → v.2 t = (bz (off (lo + v0) + t)).toInt8.toInt32) ∧ va_P (dC, dI) vwCl [(mM, .inr (2, [.int (nI 0), .int (nI R), .ref mX, .int (nI ts), .ref mO, .int (nI os), .int (nI (hi - lo)), .ref mT, .ref mS, .ref mB, .int (nI (off hi - off lo)), .int (nI hi), .int (nI dr), .int (nI de), .int (nI 1), .int fr, .int to, .int (nI (lo + v0))])), (mO, .inl (eO, 512, .inl v.2)), (mT, .inl (eT, 16384, .inl Tm)), (mS, .inl (eS, 16384, .inl Sm)), (mB, .inl (eB, 16384, .inl Bm))] H ∧ va_D A [(mM, .inr (2, [.int (nI 0), .int (nI R), .ref mX, .int (nI ts), .ref mO, .int (nI os), .int (nI (hi - lo)), .ref mT, .ref mS, .ref mB, .int (nI (off hi - off lo)), .int (nI hi), .int (nI dr), .int (nI de), .int (nI 1), .int fr, .int to, .int (nI (lo + v0))])), (mO, .inl (eO, 512, .inl v.2)), (mT, .inl (eT, 16384, .inl Tm)), (mS, .inl (eS, 16384, .inl Sm)), (mB, .inl (eB, 16384, .inl Bm))] ∧ va_S A s.heap H locs ∧ lv_has ls 5 [(4, .int (nI v.1)), (3, .int (nI (off (lo + v0) - off lo))), (2, .int (nI v0)), (0, .ref mM), (1, .int most)]) (fun v H locs ls h => ?_) (fun n v H locs ls h ih => ?_) (off (lo + v0 + 1) - off (lo + v0) + 1) (0, Om) _ _ _ ⟨⟨rfl, Nat.zero_le _, fun t h => absurd h (Nat.not_lt_zero t)⟩, hP, hD, hS, lv_sub hl [0, 1, 2, 3, 4] rfl⟩
                · obtain ⟨⟨h1, h2, -⟩, -⟩ := h
                  omega
                obtain ⟨j, Og⟩ := v
                obtain ⟨⟨hi1, hi2, hO⟩, hP, hD, hS, hl⟩ := h
                dsimp only at hi1 hi2 hO
                have hP : va_P (dC, dI) vwCl [(mM, .inr (2, [.int (nI 0), .int (nI R), .ref mX, .int (nI ts), .ref mO, .int (nI os), .int (nI (hi - lo)), .ref mT, .ref mS, .ref mB, .int (nI (off hi - off lo)), .int (nI hi), .int (nI dr), .int (nI de), .int (nI 1), .int fr, .int to, .int (nI (lo + v0))])), (mO, .inl (eO, 512, .inl Og)), (mT, .inl (eT, 16384, .inl Tm)), (mS, .inl (eS, 16384, .inl Sm)), (mB, .inl (eB, 16384, .inl Bm))] H := hP
                have hD : va_D A [(mM, .inr (2, [.int (nI 0), .int (nI R), .ref mX, .int (nI ts), .ref mO, .int (nI os), .int (nI (hi - lo)), .ref mT, .ref mS, .ref mB, .int (nI (off hi - off lo)), .int (nI hi), .int (nI dr), .int (nI de), .int (nI 1), .int fr, .int to, .int (nI (lo + v0))])), (mO, .inl (eO, 512, .inl Og)), (mT, .inl (eT, 16384, .inl Tm)), (mS, .inl (eS, 16384, .inl Sm)), (mB, .inl (eB, 16384, .inl Bm))] := hD
                have hl : lv_has ls 5 [(4, .int (nI j)), (3, .int (nI (off (lo + v0) - off lo))), (2, .int (nI v0)), (0, .ref mM), (1, .int most)] := hl
                refine lv_iload hx hb dM_next_131 (lv_at hl 0 rfl) ?_
                refine lv_aload_n hx hb dM_next_133 rfl (lv_at hl 3 rfl) ?_
                refine va_get (D := (dC, dI)) (ci := 2) (v := .ref mS) (C := RM) (T := TM) (N := 18) hx hb hts hi_M hown hK hP 0 rfl rfl 8 (by decide) (hts (.fieldLink RM 20 "PacketStoreModel" "size" "[I") (by decide +kernel)) (fun _ h9 => h9) rfl dM_next_134 ?_
                refine lv_iload_n hx hb dM_next_137 rfl (lv_at hl 2 rfl) ?_
                refine zz_iald hx hb hK hP 3 2 rfl rfl (j := v0) (by omega) (by omega) dM_next_138 ?_
                refine zz_as (nI (off (lo + v0 + 1) - off (lo + v0))) (hrm.2.1 v0 (by omega)) ?_
                refine zz_icmp_ge (a := j) (b := off (lo + v0 + 1) - off (lo + v0)) (tgt := 164) hx hb dM_next_139 (by decide) (by omega) (by omega) (fun c139 => ?_) (fun c139 => ?_)
                · refine lv_aload_n hx hb dM_next_164 rfl (lv_at hl 3 rfl) ?_
                  refine lv_aload_n hx hb dM_next_165 rfl (lv_at hl 3 rfl) ?_
                  refine va_get (D := (dC, dI)) (ci := 2) (v := .ref mS) (C := RM) (T := TM) (N := 18) hx hb hts hi_M hown hK hP 0 rfl rfl 8 (by decide) (hts (.fieldLink RM 20 "PacketStoreModel" "size" "[I") (by decide +kernel)) (fun _ h9 => h9) rfl dM_next_166 ?_
                  refine lv_iload_n hx hb dM_next_169 rfl (lv_at hl 2 rfl) ?_
                  refine zz_iald hx hb hK hP 3 2 rfl rfl (j := v0) (by omega) (by omega) dM_next_170 ?_
                  refine zz_as (nI (off (lo + v0 + 1) - off (lo + v0))) (hrm.2.1 v0 (by omega)) ?_
                  refine va_put (D := (dC, dI)) (ci := 2) (v := .int (nI (off (lo + v0 + 1) - off (lo + v0)))) (ty := .int) (C := RM) (T := TM) (N := 18) hx hb hts hi_M tyM tyM_ok nmM hown hK hP hD hS 0 rfl rfl 5 (by decide) (hts (.fieldLink RM 71 "PacketStoreModel" "outSize" "I") (by decide +kernel)) (fun _ h9 => h9) rfl (by decide +kernel) rfl rfl (Nat.le_of_ble_eq_true rfl) dM_next_171 (fun H locs hP hD hS => ?_)
                  have hP : va_P (dC, dI) vwCl [(mM, .inr (2, [.int (nI 0), .int (nI R), .ref mX, .int (nI ts), .ref mO, .int (nI (off (lo + v0 + 1) - off (lo + v0))), .int (nI (hi - lo)), .ref mT, .ref mS, .ref mB, .int (nI (off hi - off lo)), .int (nI hi), .int (nI dr), .int (nI de), .int (nI 1), .int fr, .int to, .int (nI (lo + v0))])), (mO, .inl (eO, 512, .inl Og)), (mT, .inl (eT, 16384, .inl Tm)), (mS, .inl (eS, 16384, .inl Sm)), (mB, .inl (eB, 16384, .inl Bm))] H := hP
                  have hD : va_D A [(mM, .inr (2, [.int (nI 0), .int (nI R), .ref mX, .int (nI ts), .ref mO, .int (nI (off (lo + v0 + 1) - off (lo + v0))), .int (nI (hi - lo)), .ref mT, .ref mS, .ref mB, .int (nI (off hi - off lo)), .int (nI hi), .int (nI dr), .int (nI de), .int (nI 1), .int fr, .int to, .int (nI (lo + v0))])), (mO, .inl (eO, 512, .inl Og)), (mT, .inl (eT, 16384, .inl Tm)), (mS, .inl (eS, 16384, .inl Sm)), (mB, .inl (eB, 16384, .inl Bm))] := hD
                  refine lv_aload_n hx hb dM_next_174 rfl (lv_at hl 3 rfl) ?_
                  refine lv_dup hx hb dM_next_175 rfl ?_
                  refine va_get (D := (dC, dI)) (ci := 2) (v := .int (nI (lo + v0))) (C := RM) (T := TM) (N := 18) hx hb hts hi_M hown hK hP 0 rfl rfl 17 (by decide) (hts (.fieldLink RM 64 "PacketStoreModel" "looks" "I") (by decide +kernel)) (fun _ h9 => h9) rfl dM_next_176 ?_
                  refine lv_iconst (v := nI 1) hx hb dM_next_179 (by decide) ?_
                  refine lv_iadd hx hb dM_next_180 ?_
                  refine zz_as (nI ((lo + v0) + 1)) (nI_add _ _) ?_
                  refine va_put (D := (dC, dI)) (ci := 2) (v := .int (nI ((lo + v0) + 1))) (ty := .int) (C := RM) (T := TM) (N := 18) hx hb hts hi_M tyM tyM_ok nmM hown hK hP hD hS 0 rfl rfl 17 (by decide) (hts (.fieldLink RM 64 "PacketStoreModel" "looks" "I") (by decide +kernel)) (fun _ h9 => h9) rfl (by decide +kernel) rfl rfl (Nat.le_of_ble_eq_true rfl) dM_next_181 (fun H locs hP hD hS => ?_)
                  have hP : va_P (dC, dI) vwCl [(mM, .inr (2, [.int (nI 0), .int (nI R), .ref mX, .int (nI ts), .ref mO, .int (nI (off (lo + v0 + 1) - off (lo + v0))), .int (nI (hi - lo)), .ref mT, .ref mS, .ref mB, .int (nI (off hi - off lo)), .int (nI hi), .int (nI dr), .int (nI de), .int (nI 1), .int fr, .int to, .int (nI ((lo + v0) + 1))])), (mO, .inl (eO, 512, .inl Og)), (mT, .inl (eT, 16384, .inl Tm)), (mS, .inl (eS, 16384, .inl Sm)), (mB, .inl (eB, 16384, .inl Bm))] H := hP
                  have hD : va_D A [(mM, .inr (2, [.int (nI 0), .int (nI R), .ref mX, .int (nI ts), .ref mO, .int (nI (off (lo + v0 + 1) - off (lo + v0))), .int (nI (hi - lo)), .ref mT, .ref mS, .ref mB, .int (nI (off hi - off lo)), .int (nI hi), .int (nI dr), .int (nI de), .int (nI 1), .int fr, .int to, .int (nI ((lo + v0) + 1))])), (mO, .inl (eO, 512, .inl Og)), (mT, .inl (eT, 16384, .inl Tm)), (mS, .inl (eS, 16384, .inl Sm)), (mB, .inl (eB, 16384, .inl Bm))] := hD
                  refine lv_aload_n hx hb dM_next_184 rfl (lv_at hl 3 rfl) ?_
                  refine va_get (D := (dC, dI)) (ci := 2) (v := .int (nI (off (lo + v0 + 1) - off (lo + v0)))) (C := RM) (T := TM) (N := 18) hx hb hts hi_M hown hK hP 0 rfl rfl 5 (by decide) (hts (.fieldLink RM 71 "PacketStoreModel" "outSize" "I") (by decide +kernel)) (fun _ h9 => h9) rfl dM_next_185 ?_
                  exact W.iret (v := (nI (off (lo + v0 + 1) - off (lo + v0)))) hx hb hr (fun t ht hW => ⟨⟨_, (v0 + 1, 1, off (lo + v0 + 1) - off (lo + v0), Og), rfl, ⟨v0, hj4, hj2, hj3, Or.inr ⟨by omega, hwant, Or.inr ⟨c116, rfl, rfl, rfl, rfl, fun t h => hO t (by omega)⟩⟩⟩, by rw [ht]; exact hP, va_K.moved hW.alike hK, hD⟩, hS.F ht⟩) hS.2.2 dM_next_188
                · refine lv_aload_n hx hb dM_next_142 rfl (lv_at hl 3 rfl) ?_
                  refine va_get (D := (dC, dI)) (ci := 2) (v := .ref mO) (C := RM) (T := TM) (N := 18) hx hb hts hi_M hown hK hP 0 rfl rfl 4 (by decide) (hts (.fieldLink RM 13 "PacketStoreModel" "out" "[B") (by decide +kernel)) (fun _ h9 => h9) rfl dM_next_143 ?_
                  refine lv_iload hx hb dM_next_146 (lv_at hl 0 rfl) ?_
                  refine lv_aload_n hx hb dM_next_148 rfl (lv_at hl 3 rfl) ?_
                  refine va_get (D := (dC, dI)) (ci := 2) (v := .ref mB) (C := RM) (T := TM) (N := 18) hx hb hts hi_M hown hK hP 0 rfl rfl 9 (by decide) (hts (.fieldLink RM 23 "PacketStoreModel" "bytes" "[B") (by decide +kernel)) (fun _ h9 => h9) rfl dM_next_149 ?_
                  refine lv_iload_n hx hb dM_next_152 rfl (lv_at hl 1 rfl) ?_
                  refine lv_iload hx hb dM_next_153 (lv_at hl 0 rfl) ?_
                  refine lv_iadd hx hb dM_next_155 ?_
                  refine zz_as (nI ((off (lo + v0) - off lo) + j)) (nI_add _ _) ?_
                  refine zz_bald hx hb hK hP 4 3 rfl rfl (j := (off (lo + v0) - off lo) + j) (by omega) (by omega) dM_next_156 ?_
                  refine zz_as ((bz (off (lo + v0) + j)).toInt8.toInt32) (by rw [hrm.2.2 _ (by omega), show off lo + (off (lo + v0) - off lo + j) = off (lo + v0) + j by omega]) ?_
                  refine zz_bast hx hb hK hP hD hS 1 0 rfl rfl (j := j) (x := (((bz (off (lo + v0) + j)).toInt8.toInt32))) (by omega) (by omega) dM_next_157 (fun H locs hP hD hS => ?_)
                  have hP : va_P (dC, dI) vwCl [(mM, .inr (2, [.int (nI 0), .int (nI R), .ref mX, .int (nI ts), .ref mO, .int (nI os), .int (nI (hi - lo)), .ref mT, .ref mS, .ref mB, .int (nI (off hi - off lo)), .int (nI hi), .int (nI dr), .int (nI de), .int (nI 1), .int fr, .int to, .int (nI (lo + v0))])), (mO, .inl (eO, 512, .inl (upd Og j ((((bz (off (lo + v0) + j)).toInt8.toInt32)).toInt8.toInt32)))), (mT, .inl (eT, 16384, .inl Tm)), (mS, .inl (eS, 16384, .inl Sm)), (mB, .inl (eB, 16384, .inl Bm))] H := hP
                  have hD : va_D A [(mM, .inr (2, [.int (nI 0), .int (nI R), .ref mX, .int (nI ts), .ref mO, .int (nI os), .int (nI (hi - lo)), .ref mT, .ref mS, .ref mB, .int (nI (off hi - off lo)), .int (nI hi), .int (nI dr), .int (nI de), .int (nI 1), .int fr, .int to, .int (nI (lo + v0))])), (mO, .inl (eO, 512, .inl (upd Og j ((((bz (off (lo + v0) + j)).toInt8.toInt32)).toInt8.toInt32)))), (mT, .inl (eT, 16384, .inl Tm)), (mS, .inl (eS, 16384, .inl Sm)), (mB, .inl (eB, 16384, .inl Bm))] := hD
                  refine lv_iinc (v := nI (j + 1)) (lv' := [(4, .int (nI (j + 1))), (3, .int (nI (off (lo + v0) - off lo))), (2, .int (nI v0)), (0, .ref mM), (1, .int most)]) hx hb dM_next_158 hl (k := 0) rfl (show nI j + 1 = nI (j + 1) from nI_1 _) (by decide) rfl (fun ls hl => ?_)
                  refine lv_goto (tgt := 131) hx hb dM_next_161 (by decide) ?_
                  exact ih (j + 1, upd Og j ((((bz (off (lo + v0) + j)).toInt8.toInt32)).toInt8.toInt32)) _ _ _ ⟨⟨by show _ + (j + 1) = (off (lo + v0 + 1) - off (lo + v0)) + 1; omega, by show j + 1 ≤ off (lo + v0 + 1) - off (lo + v0); omega, zz_updlt (g := fun t => (bz (off (lo + v0) + t)).toInt8.toInt32) hO (zz_i8 _)⟩, hP, hD, hS, lv_sub hl [0, 1, 2, 3, 4] rfl⟩
              · refine lv_bipush (v := (-2)) hx hb dM_next_119 (by decide) ?_
                exact W.iret (v := ((-2))) hx hb hr (fun t ht hW => ⟨⟨_, (v, 1, os, Om), rfl, ⟨v, hj4, hj2, hj3, Or.inr ⟨by omega, hwant, Or.inl ⟨c116, rfl, rfl⟩⟩⟩, by rw [ht]; exact hP, va_K.moved hW.alike hK, hD⟩, hS.F ht⟩) hS.2.2 dM_next_121
            · exact absurd c99 (by omega)
          · refine lv_iinc (v := nI (v + 1)) (lv' := [(2, .int (nI (v + 1))), (0, .ref mM), (1, .int most)]) hx hb dM_next_73 hl (k := 0) rfl (show nI v + 1 = nI (v + 1) from nI_1 _) (by decide) rfl (fun ls hl => ?_)
            refine lv_goto (tgt := 39) hx hb dM_next_76 (by decide) ?_
            exact ih (v + 1) _ _ _ ⟨⟨by omega, by omega, by omega, fun t h1 h2 => (Nat.lt_or_ge t v).elim (fun q => hj3 t h1 q) (fun q => by rw [show t = v by omega]; exact fun h => c70 h.2)⟩, hP, hD, hS, lv_sub hl [0, 1, 2] rfl⟩
  · exact absurd c9 (by decide)
set_option maxHeartbeats 4000000 in
set_option maxRecDepth 100000 in
/-- model: out -/
theorem c_M_out (l : Launch) (dC : Nat → ClassId) (dI : Nat → Nat → Nat) (mM mX mO mT mS mB R ts os ma us ca dr de uw : Nat) (fr to : Int32) (lk : Nat) (eO : ClassId) (Om oz : Nat → Int32) (j : Int32) (hos : os ≤ 512) (hO : ∀ t, t < os → Om t = (oz t).toInt8.toInt32) (hz : Nat) : Met l yM_out wsM_out ({ frames := 0, cells := 0, slots := 0, locals := 0 }) (va_Pc [.ref mM, .int j] (fun U => U.heap.size = hz ∧ va_P (dC, dI) vwCl [(mM, .inr (2, [.int (nI 0), .int (nI R), .ref mX, .int (nI ts), .ref mO, .int (nI os), .int (nI ma), .ref mT, .ref mS, .ref mB, .int (nI us), .int (nI ca), .int (nI dr), .int (nI de), .int (nI uw), .int fr, .int to, .int (nI lk)])), (mO, .inl (eO, 512, .inl Om))] U.heap ∧ va_K (dC, dI) vwCl [(eO, .byte)] U ∧ va_D (fun _ => True) [(mM, .inr (2, [.int (nI 0), .int (nI R), .ref mX, .int (nI ts), .ref mO, .int (nI os), .int (nI ma), .ref mT, .ref mS, .ref mB, .int (nI us), .int (nI ca), .int (nI dr), .int (nI de), .int (nI uw), .int fr, .int to, .int (nI lk)])), (mO, .inl (eO, 512, .inl Om))])) (va_Qi (fun (r : Int32) (u : Unit) => r = md_out os oz j) (fun u t => va_P (dC, dI) vwCl [(mM, .inr (2, [.int (nI 0), .int (nI R), .ref mX, .int (nI ts), .ref mO, .int (nI os), .int (nI ma), .ref mT, .ref mS, .ref mB, .int (nI us), .int (nI ca), .int (nI dr), .int (nI de), .int (nI uw), .int fr, .int to, .int (nI lk)])), (mO, .inl (eO, 512, .inl Om))] t.heap ∧ va_K (dC, dI) vwCl [(eO, .byte)] t ∧ va_D (va_A [(mM, .inr (2, [.int (nI 0), .int (nI R), .ref mX, .int (nI ts), .ref mO, .int (nI os), .int (nI ma), .ref mT, .ref mS, .ref mB, .int (nI us), .int (nI ca), .int (nI dr), .int (nI de), .int (nI uw), .int fr, .int to, .int (nI lk)])), (mO, .inl (eO, 512, .inl Om))] hz) [(mM, .inr (2, [.int (nI 0), .int (nI R), .ref mX, .int (nI ts), .ref mO, .int (nI os), .int (nI ma), .ref mT, .ref mS, .ref mB, .int (nI us), .int (nI ca), .int (nI dr), .int (nI de), .int (nI uw), .int fr, .int to, .int (nI lk)])), (mO, .inl (eO, 512, .inl Om))]) (va_A [(mM, .inr (2, [.int (nI 0), .int (nI R), .ref mX, .int (nI ts), .ref mO, .int (nI os), .int (nI ma), .ref mT, .ref mS, .ref mB, .int (nI us), .int (nI ca), .int (nI dr), .int (nI de), .int (nI uw), .int fr, .int to, .int (nI lk)])), (mO, .inl (eO, 512, .inl Om))] hz)) 0 0 (va_A [(mM, .inr (2, [.int (nI 0), .int (nI R), .ref mX, .int (nI ts), .ref mO, .int (nI os), .int (nI ma), .ref mT, .ref mS, .ref mB, .int (nI us), .int (nI ca), .int (nI dr), .int (nI de), .int (nI uw), .int fr, .int to, .int (nI lk)])), (mO, .inl (eO, 512, .inl Om))] hz) := by
  refine Met.ofW (cc := cM_out) (maxL := 2) (ret := (some .int)) (by decide) rfl ?_
  intro p e s m args below meth c s₁ B hml hv
  obtain ⟨rfl, hsz, hP, hK, hD0⟩ := hv
  have hx := B.exec
  have hb := B.bytes
  have hr := B.returns
  have hts := atoms_spec (ws := wsM_out) B.pre
  have hown : s.vm.findClass RM = some m.cls := findClass_of_methodNamed B.named
  have hlocks := B.notSynchronized
  have hi_M : ∀ w ∈ u_ws RM TM 18, w ∈ wsM_out := by decide +kernel
  subst hsz
  have hD := hD0.self (sz := s.heap.size)
  generalize hAe : va_A [(mM, .inr (2, [.int (nI 0), .int (nI R), .ref mX, .int (nI ts), .ref mO, .int (nI os), .int (nI ma), .ref mT, .ref mS, .ref mB, .int (nI us), .int (nI ca), .int (nI dr), .int (nI de), .int (nI uw), .int fr, .int to, .int (nI lk)])), (mO, .inl (eO, 512, .inl Om))] s.heap.size = A at hD ⊢
  have hA : ∀ q : Nat, s.heap.size ≤ q → A q := fun q h => by rw [← hAe]; exact Or.inr h
  have hS : va_S A s.heap s.heap [] := va_S.rf
  have hP : va_P (dC, dI) vwCl [(mM, .inr (2, [.int (nI 0), .int (nI R), .ref mX, .int (nI ts), .ref mO, .int (nI os), .int (nI ma), .ref mT, .ref mS, .ref mB, .int (nI us), .int (nI ca), .int (nI dr), .int (nI de), .int (nI uw), .int fr, .int to, .int (nI lk)])), (mO, .inl (eO, 512, .inl Om))] s.heap := hP
  have hl := lv_entry ([.ref mM, .int j]) (n := 2) (Nat.le_of_ble_eq_true rfl)
  rw [lg_entry_eq]
  generalize (lg_sl ([.ref mM, .int j]) ++ List.replicate (2 - (lg_sl ([.ref mM, .int j])).length) Slot.unset).toArray = ls at hl ⊢
  have hl : lv_has ls 2 [(0, .ref mM), (1, .int j)] := hl
  refine lv_aload_n hx hb dM_out_0 rfl (lv_at hl 0 rfl) ?_
  refine lv_iconst (v := nI 0) hx hb dM_out_1 (by decide) ?_
  refine va_put (D := (dC, dI)) (ci := 2) (v := .int (nI 0)) (ty := .int) (C := RM) (T := TM) (N := 18) hx hb hts hi_M tyM tyM_ok nmM hown hK hP hD hS 0 rfl rfl 0 (by decide) (hts (.fieldLink RM 30 "PacketStoreModel" "thrown" "I") (by decide +kernel)) (fun _ h9 => h9) rfl (by decide +kernel) rfl rfl (Nat.le_of_ble_eq_true rfl) dM_out_2 (fun H locs hP hD hS => ?_)
  have hP : va_P (dC, dI) vwCl [(mM, .inr (2, [.int (nI 0), .int (nI R), .ref mX, .int (nI ts), .ref mO, .int (nI os), .int (nI ma), .ref mT, .ref mS, .ref mB, .int (nI us), .int (nI ca), .int (nI dr), .int (nI de), .int (nI uw), .int fr, .int to, .int (nI lk)])), (mO, .inl (eO, 512, .inl Om))] H := hP
  have hD : va_D A [(mM, .inr (2, [.int (nI 0), .int (nI R), .ref mX, .int (nI ts), .ref mO, .int (nI os), .int (nI ma), .ref mT, .ref mS, .ref mB, .int (nI us), .int (nI ca), .int (nI dr), .int (nI de), .int (nI uw), .int fr, .int to, .int (nI lk)])), (mO, .inl (eO, 512, .inl Om))] := hD
  refine lv_iload_n hx hb dM_out_5 rfl (lv_at hl 1 rfl) ?_
  refine lv_if_lt (tgt := 17) hx hb dM_out_6 (by decide) (fun c6 => ?_) (fun c6 => ?_)
  · refine lv_iconst (v := (-1)) hx hb dM_out_17 (by decide) ?_
    refine lv_goto (tgt := 31) hx hb dM_out_18 (by decide) ?_
    exact W.iret (v := ((-1))) hx hb hr (fun t ht hW => ⟨⟨_, (), rfl, by unfold md_out; rw [md_ix_none (fun ⟨q, h1, h2⟩ => nI_pos (n := q) (by omega) (h2 ▸ c6)) (by omega)], by rw [ht]; exact hP, va_K.moved hW.alike hK, hD⟩, hS.F ht⟩) hS.2.2 dM_out_31
  · refine lv_iload_n hx hb dM_out_9 rfl (lv_at hl 1 rfl) ?_
    refine lv_aload_n hx hb dM_out_10 rfl (lv_at hl 0 rfl) ?_
    refine va_get (D := (dC, dI)) (ci := 2) (v := .int (nI os)) (C := RM) (T := TM) (N := 18) hx hb hts hi_M hown hK hP 0 rfl rfl 5 (by decide) (hts (.fieldLink RM 71 "PacketStoreModel" "outSize" "I") (by decide +kernel)) (fun _ h9 => h9) rfl dM_out_11 ?_
    refine lv_icmp_lt (tgt := 21) hx hb dM_out_14 (by decide) (fun c14 => ?_) (fun c14 => ?_)
    · obtain ⟨g, hg, eg⟩ := (pk_ix j (show os < 2 ^ 31 by omega)).elim (fun h => absurd h c6) (fun h => h.elim (fun h => absurd c14 (Int32.not_lt.mpr h)) id)
      subst eg
      refine lv_aload_n hx hb dM_out_21 rfl (lv_at hl 0 rfl) ?_
      refine va_get (D := (dC, dI)) (ci := 2) (v := .ref mO) (C := RM) (T := TM) (N := 18) hx hb hts hi_M hown hK hP 0 rfl rfl 4 (by decide) (hts (.fieldLink RM 13 "PacketStoreModel" "out" "[B") (by decide +kernel)) (fun _ h9 => h9) rfl dM_out_22 ?_
      refine lv_iload_n hx hb dM_out_25 rfl (lv_at hl 1 rfl) ?_
      refine zz_bald hx hb hK hP 1 0 rfl rfl (j := g) (by omega) (by omega) dM_out_26 ?_
      refine lv_sipush (v := nI 255) hx hb dM_out_27 (by decide) ?_
      refine lv_iand hx hb dM_out_30 ?_
      exact W.iret (v := (((Om g)) &&& ((nI 255)))) hx hb hr (fun t ht hW => ⟨⟨_, (), rfl, by unfold md_out; rw [md_ix_some hg (by omega), hO g hg]; exact zz_255 _, by rw [ht]; exact hP, va_K.moved hW.alike hK, hD⟩, hS.F ht⟩) hS.2.2 dM_out_31
    · refine lv_iconst (v := (-1)) hx hb dM_out_17 (by decide) ?_
      refine lv_goto (tgt := 31) hx hb dM_out_18 (by decide) ?_
      exact W.iret (v := ((-1))) hx hb hr (fun t ht hW => ⟨⟨_, (), rfl, by unfold md_out; rw [md_ix_none (fun ⟨q, h1, h2⟩ => c14 (h2 ▸ nI_lt h1 (by omega))) (by omega)], by rw [ht]; exact hP, va_K.moved hW.alike hK, hD⟩, hS.F ht⟩) hS.2.2 dM_out_31
set_option maxHeartbeats 4000000 in
set_option maxRecDepth 100000 in
/-- model: count -/
theorem c_M_count (l : Launch) (dC : Nat → ClassId) (dI : Nat → Nat → Nat) (mM mX mO mT mS mB R ts os ma us ca dr de uw : Nat) (fr to : Int32) (lk : Nat) (what : Int32) (huw : uw ≤ 1) (hz : Nat) : Met l yM_count wsM_count ({ frames := 0, cells := 0, slots := 0, locals := 0 }) (va_Pc [.ref mM, .int what] (fun U => U.heap.size = hz ∧ va_P (dC, dI) vwCl [(mM, .inr (2, [.int (nI 0), .int (nI R), .ref mX, .int (nI ts), .ref mO, .int (nI os), .int (nI ma), .ref mT, .ref mS, .ref mB, .int (nI us), .int (nI ca), .int (nI dr), .int (nI de), .int (nI uw), .int fr, .int to, .int (nI lk)]))] U.heap ∧ va_K (dC, dI) vwCl [] U ∧ va_D (fun _ => True) [(mM, .inr (2, [.int (nI 0), .int (nI R), .ref mX, .int (nI ts), .ref mO, .int (nI os), .int (nI ma), .ref mT, .ref mS, .ref mB, .int (nI us), .int (nI ca), .int (nI dr), .int (nI de), .int (nI uw), .int fr, .int to, .int (nI lk)]))])) (va_Qi (fun (r : Int32) (u : Unit) => r = md_count what ma us ca dr de uw os R) (fun u t => va_P (dC, dI) vwCl [(mM, .inr (2, [.int (nI 0), .int (nI R), .ref mX, .int (nI ts), .ref mO, .int (nI os), .int (nI ma), .ref mT, .ref mS, .ref mB, .int (nI us), .int (nI ca), .int (nI dr), .int (nI de), .int (nI uw), .int fr, .int to, .int (nI lk)]))] t.heap ∧ va_K (dC, dI) vwCl [] t ∧ va_D (va_A [(mM, .inr (2, [.int (nI 0), .int (nI R), .ref mX, .int (nI ts), .ref mO, .int (nI os), .int (nI ma), .ref mT, .ref mS, .ref mB, .int (nI us), .int (nI ca), .int (nI dr), .int (nI de), .int (nI uw), .int fr, .int to, .int (nI lk)]))] hz) [(mM, .inr (2, [.int (nI 0), .int (nI R), .ref mX, .int (nI ts), .ref mO, .int (nI os), .int (nI ma), .ref mT, .ref mS, .ref mB, .int (nI us), .int (nI ca), .int (nI dr), .int (nI de), .int (nI uw), .int fr, .int to, .int (nI lk)]))]) (va_A [(mM, .inr (2, [.int (nI 0), .int (nI R), .ref mX, .int (nI ts), .ref mO, .int (nI os), .int (nI ma), .ref mT, .ref mS, .ref mB, .int (nI us), .int (nI ca), .int (nI dr), .int (nI de), .int (nI uw), .int fr, .int to, .int (nI lk)]))] hz)) 0 0 (va_A [(mM, .inr (2, [.int (nI 0), .int (nI R), .ref mX, .int (nI ts), .ref mO, .int (nI os), .int (nI ma), .ref mT, .ref mS, .ref mB, .int (nI us), .int (nI ca), .int (nI dr), .int (nI de), .int (nI uw), .int fr, .int to, .int (nI lk)]))] hz) := by
  refine Met.ofW (cc := cM_count) (maxL := 2) (ret := (some .int)) (by decide) rfl ?_
  intro p e s m args below meth c s₁ B hml hv
  obtain ⟨rfl, hsz, hP, hK, hD0⟩ := hv
  have hx := B.exec
  have hb := B.bytes
  have hr := B.returns
  have hts := atoms_spec (ws := wsM_count) B.pre
  have hown : s.vm.findClass RM = some m.cls := findClass_of_methodNamed B.named
  have hlocks := B.notSynchronized
  have hi_M : ∀ w ∈ u_ws RM TM 18, w ∈ wsM_count := by decide +kernel
  subst hsz
  have hD := hD0.self (sz := s.heap.size)
  generalize hAe : va_A [(mM, .inr (2, [.int (nI 0), .int (nI R), .ref mX, .int (nI ts), .ref mO, .int (nI os), .int (nI ma), .ref mT, .ref mS, .ref mB, .int (nI us), .int (nI ca), .int (nI dr), .int (nI de), .int (nI uw), .int fr, .int to, .int (nI lk)]))] s.heap.size = A at hD ⊢
  have hA : ∀ q : Nat, s.heap.size ≤ q → A q := fun q h => by rw [← hAe]; exact Or.inr h
  have hS : va_S A s.heap s.heap [] := va_S.rf
  have hP : va_P (dC, dI) vwCl [(mM, .inr (2, [.int (nI 0), .int (nI R), .ref mX, .int (nI ts), .ref mO, .int (nI os), .int (nI ma), .ref mT, .ref mS, .ref mB, .int (nI us), .int (nI ca), .int (nI dr), .int (nI de), .int (nI uw), .int fr, .int to, .int (nI lk)]))] s.heap := hP
  have hl := lv_entry ([.ref mM, .int what]) (n := 2) (Nat.le_of_ble_eq_true rfl)
  rw [lg_entry_eq]
  generalize (lg_sl ([.ref mM, .int what]) ++ List.replicate (2 - (lg_sl ([.ref mM, .int what])).length) Slot.unset).toArray = ls at hl ⊢
  have hl : lv_has ls 2 [(0, .ref mM), (1, .int what)] := hl
  refine lv_aload_n hx hb dM_count_0 rfl (lv_at hl 0 rfl) ?_
  refine lv_iconst (v := nI 0) hx hb dM_count_1 (by decide) ?_
  refine va_put (D := (dC, dI)) (ci := 2) (v := .int (nI 0)) (ty := .int) (C := RM) (T := TM) (N := 18) hx hb hts hi_M tyM tyM_ok nmM hown hK hP hD hS 0 rfl rfl 0 (by decide) (hts (.fieldLink RM 30 "PacketStoreModel" "thrown" "I") (by decide +kernel)) (fun _ h9 => h9) rfl (by decide +kernel) rfl rfl (Nat.le_of_ble_eq_true rfl) dM_count_2 (fun H locs hP hD hS => ?_)
  have hP : va_P (dC, dI) vwCl [(mM, .inr (2, [.int (nI 0), .int (nI R), .ref mX, .int (nI ts), .ref mO, .int (nI os), .int (nI ma), .ref mT, .ref mS, .ref mB, .int (nI us), .int (nI ca), .int (nI dr), .int (nI de), .int (nI uw), .int fr, .int to, .int (nI lk)]))] H := hP
  have hD : va_D A [(mM, .inr (2, [.int (nI 0), .int (nI R), .ref mX, .int (nI ts), .ref mO, .int (nI os), .int (nI ma), .ref mT, .ref mS, .ref mB, .int (nI us), .int (nI ca), .int (nI dr), .int (nI de), .int (nI uw), .int fr, .int to, .int (nI lk)]))] := hD
  refine lv_iload_n hx hb dM_count_5 rfl (lv_at hl 1 rfl) ?_
  rcases zz_sw what 8 (by decide) with ⟨k9, hk9, e9⟩ | h9
  · rcases (show k9 = 0 ∨ k9 = 1 ∨ k9 = 2 ∨ k9 = 3 ∨ k9 = 4 ∨ k9 = 5 ∨ k9 = 6 ∨ k9 = 7 by omega) with rfl | rfl | rfl | rfl | rfl | rfl | rfl | rfl <;> subst e9
    · refine lv_tableIn (off := 46) (tgt := 52) hx hb dM_count_6 (by decide) (by decide) (by decide) (by decide) ?_
      refine lv_aload_n hx hb dM_count_52 rfl (lv_at hl 0 rfl) ?_
      refine va_get (D := (dC, dI)) (ci := 2) (v := .int (nI ma)) (C := RM) (T := TM) (N := 18) hx hb hts hi_M hown hK hP 0 rfl rfl 6 (by decide) (hts (.fieldLink RM 36 "PacketStoreModel" "many" "I") (by decide +kernel)) (fun _ h9 => h9) rfl dM_count_53 ?_
      exact W.iret (v := (nI ma)) hx hb hr (fun t ht hW => ⟨⟨_, (), rfl, by unfold md_count; rw [if_pos rfl], by rw [ht]; exact hP, va_K.moved hW.alike hK, hD⟩, hS.F ht⟩) hS.2.2 dM_count_56
    · refine lv_tableIn (off := 51) (tgt := 57) hx hb dM_count_6 (by decide) (by decide) (by decide) (by decide) ?_
      refine lv_aload_n hx hb dM_count_57 rfl (lv_at hl 0 rfl) ?_
      refine va_get (D := (dC, dI)) (ci := 2) (v := .int (nI us)) (C := RM) (T := TM) (N := 18) hx hb hts hi_M hown hK hP 0 rfl rfl 10 (by decide) (hts (.fieldLink RM 33 "PacketStoreModel" "used" "I") (by decide +kernel)) (fun _ h9 => h9) rfl dM_count_58 ?_
      exact W.iret (v := (nI us)) hx hb hr (fun t ht hW => ⟨⟨_, (), rfl, by unfold md_count; rw [if_neg (by decide), if_pos rfl], by rw [ht]; exact hP, va_K.moved hW.alike hK, hD⟩, hS.F ht⟩) hS.2.2 dM_count_61
    · refine lv_tableIn (off := 56) (tgt := 62) hx hb dM_count_6 (by decide) (by decide) (by decide) (by decide) ?_
      refine lv_aload_n hx hb dM_count_62 rfl (lv_at hl 0 rfl) ?_
      refine va_get (D := (dC, dI)) (ci := 2) (v := .int (nI ca)) (C := RM) (T := TM) (N := 18) hx hb hts hi_M hown hK hP 0 rfl rfl 11 (by decide) (hts (.fieldLink RM 48 "PacketStoreModel" "came" "I") (by decide +kernel)) (fun _ h9 => h9) rfl dM_count_63 ?_
      exact W.iret (v := (nI ca)) hx hb hr (fun t ht hW => ⟨⟨_, (), rfl, by unfold md_count; rw [if_neg (by decide), if_neg (by decide), if_pos rfl], by rw [ht]; exact hP, va_K.moved hW.alike hK, hD⟩, hS.F ht⟩) hS.2.2 dM_count_66
    · refine lv_tableIn (off := 61) (tgt := 67) hx hb dM_count_6 (by decide) (by decide) (by decide) (by decide) ?_
      refine lv_aload_n hx hb dM_count_67 rfl (lv_at hl 0 rfl) ?_
      refine va_get (D := (dC, dI)) (ci := 2) (v := .int (nI dr)) (C := RM) (T := TM) (N := 18) hx hb hts hi_M hown hK hP 0 rfl rfl 12 (by decide) (hts (.fieldLink RM 45 "PacketStoreModel" "driven" "I") (by decide +kernel)) (fun _ h9 => h9) rfl dM_count_68 ?_
      exact W.iret (v := (nI dr)) hx hb hr (fun t ht hW => ⟨⟨_, (), rfl, by unfold md_count; rw [if_neg (by decide), if_neg (by decide), if_neg (by decide), if_pos rfl], by rw [ht]; exact hP, va_K.moved hW.alike hK, hD⟩, hS.F ht⟩) hS.2.2 dM_count_71
    · refine lv_tableIn (off := 66) (tgt := 72) hx hb dM_count_6 (by decide) (by decide) (by decide) (by decide) ?_
      refine lv_aload_n hx hb dM_count_72 rfl (lv_at hl 0 rfl) ?_
      refine va_get (D := (dC, dI)) (ci := 2) (v := .int (nI de)) (C := RM) (T := TM) (N := 18) hx hb hts hi_M hown hK hP 0 rfl rfl 13 (by decide) (hts (.fieldLink RM 51 "PacketStoreModel" "deleted" "I") (by decide +kernel)) (fun _ h9 => h9) rfl dM_count_73 ?_
      exact W.iret (v := (nI de)) hx hb hr (fun t ht hW => ⟨⟨_, (), rfl, by unfold md_count; rw [if_neg (by decide), if_neg (by decide), if_neg (by decide), if_neg (by decide), if_pos rfl], by rw [ht]; exact hP, va_K.moved hW.alike hK, hD⟩, hS.F ht⟩) hS.2.2 dM_count_76
    · refine lv_tableIn (off := 71) (tgt := 77) hx hb dM_count_6 (by decide) (by decide) (by decide) (by decide) ?_
      refine lv_aload_n hx hb dM_count_77 rfl (lv_at hl 0 rfl) ?_
      refine va_get (D := (dC, dI)) (ci := 2) (v := .int (nI uw)) (C := RM) (T := TM) (N := 18) hx hb hts hi_M hown hK hP 0 rfl rfl 14 (by decide) (hts (.fieldLink RM 54 "PacketStoreModel" "retrieves" "Z") (by decide +kernel)) (fun _ h9 => h9) rfl dM_count_78 ?_
      refine zz_if_eq (a := uw) (tgt := 88) hx hb dM_count_81 (by decide) (by omega) (fun c81 => ?_) (fun c81 => ?_)
      · refine lv_iconst (v := nI 0) hx hb dM_count_88 (by decide) ?_
        exact W.iret (v := (nI 0)) hx hb hr (fun t ht hW => ⟨⟨_, (), rfl, by unfold md_count; rw [if_neg (by decide), if_neg (by decide), if_neg (by decide), if_neg (by decide), if_neg (by decide), if_pos rfl, c81], by rw [ht]; exact hP, va_K.moved hW.alike hK, hD⟩, hS.F ht⟩) hS.2.2 dM_count_89
      · refine lv_iconst (v := nI 1) hx hb dM_count_84 (by decide) ?_
        refine lv_goto (tgt := 89) hx hb dM_count_85 (by decide) ?_
        exact W.iret (v := (nI 1)) hx hb hr (fun t ht hW => ⟨⟨_, (), rfl, by unfold md_count; rw [if_neg (by decide), if_neg (by decide), if_neg (by decide), if_neg (by decide), if_neg (by decide), if_pos rfl, show uw = 1 by omega], by rw [ht]; exact hP, va_K.moved hW.alike hK, hD⟩, hS.F ht⟩) hS.2.2 dM_count_89
    · refine lv_tableIn (off := 84) (tgt := 90) hx hb dM_count_6 (by decide) (by decide) (by decide) (by decide) ?_
      refine lv_aload_n hx hb dM_count_90 rfl (lv_at hl 0 rfl) ?_
      refine va_get (D := (dC, dI)) (ci := 2) (v := .int (nI os)) (C := RM) (T := TM) (N := 18) hx hb hts hi_M hown hK hP 0 rfl rfl 5 (by decide) (hts (.fieldLink RM 71 "PacketStoreModel" "outSize" "I") (by decide +kernel)) (fun _ h9 => h9) rfl dM_count_91 ?_
      exact W.iret (v := (nI os)) hx hb hr (fun t ht hW => ⟨⟨_, (), rfl, by unfold md_count; rw [if_neg (by decide), if_neg (by decide), if_neg (by decide), if_neg (by decide), if_neg (by decide), if_neg (by decide), if_pos rfl], by rw [ht]; exact hP, va_K.moved hW.alike hK, hD⟩, hS.F ht⟩) hS.2.2 dM_count_94
    · refine lv_tableIn (off := 89) (tgt := 95) hx hb dM_count_6 (by decide) (by decide) (by decide) (by decide) ?_
      refine lv_aload_n hx hb dM_count_95 rfl (lv_at hl 0 rfl) ?_
      refine va_get (D := (dC, dI)) (ci := 2) (v := .int (nI R)) (C := RM) (T := TM) (N := 18) hx hb hts hi_M hown hK hP 0 rfl rfl 1 (by decide) (hts (.fieldLink RM 26 "PacketStoreModel" "room" "I") (by decide +kernel)) (fun _ h9 => h9) rfl dM_count_96 ?_
      exact W.iret (v := (nI R)) hx hb hr (fun t ht hW => ⟨⟨_, (), rfl, by unfold md_count; rw [if_neg (by decide), if_neg (by decide), if_neg (by decide), if_neg (by decide), if_neg (by decide), if_neg (by decide), if_neg (by decide), if_pos rfl], by rw [ht]; exact hP, va_K.moved hW.alike hK, hD⟩, hS.F ht⟩) hS.2.2 dM_count_99
  · refine lv_tableOut (tgt := 100) hx hb dM_count_6 (h9.elim Or.inl (fun h => Or.inr (by omega))) (by decide) ?_
    refine lv_iconst (v := (-1)) hx hb dM_count_100 (by decide) ?_
    exact W.iret (v := ((-1))) hx hb hr (fun t ht hW => ⟨⟨_, (), rfl, by unfold md_count; rw [if_neg (zz_swne h9 (k := 0) (by decide) (by decide)), if_neg (zz_swne h9 (k := 1) (by decide) (by decide)), if_neg (zz_swne h9 (k := 2) (by decide) (by decide)), if_neg (zz_swne h9 (k := 3) (by decide) (by decide)), if_neg (zz_swne h9 (k := 4) (by decide) (by decide)), if_neg (zz_swne h9 (k := 5) (by decide) (by decide)), if_neg (zz_swne h9 (k := 6) (by decide) (by decide)), if_neg (zz_swne h9 (k := 7) (by decide) (by decide))], by rw [ht]; exact hP, va_K.moved hW.alike hK, hD⟩, hS.F ht⟩) hS.2.2 dM_count_101
set_option maxHeartbeats 4000000 in
set_option maxRecDepth 100000 in
/-- model: about -/
theorem c_M_about (l : Launch) (dC : Nat → ClassId) (dI : Nat → Nat → Nat) (mM mX mO mT mS mB R lo hi : Nat) (off : Nat → Nat) (ts os dr de uw : Nat) (fr to : Int32) (pa : Nat) (eT eS eB : ClassId) (Tm Sm Bm tm bz : Nat → Int32) (k what : Int32) (hok : rg_ok R lo hi off) (hrm : rm_rep lo hi off tm bz Bm Sm Tm) (hz : Nat) : Met l yM_about wsM_about ({ frames := 0, cells := 0, slots := 0, locals := 0 }) (va_Pc [.ref mM, .int k, .int what] (fun U => U.heap.size = hz ∧ va_P (dC, dI) vwCl [(mM, .inr (2, [.int (nI 0), .int (nI R), .ref mX, .int (nI ts), .ref mO, .int (nI os), .int (nI (hi - lo)), .ref mT, .ref mS, .ref mB, .int (nI (off hi - off lo)), .int (nI hi), .int (nI dr), .int (nI de), .int (nI uw), .int fr, .int to, .int (nI pa)])), (mT, .inl (eT, 16384, .inl Tm)), (mS, .inl (eS, 16384, .inl Sm))] U.heap ∧ va_K (dC, dI) vwCl [(eT, .int), (eS, .int)] U ∧ va_D (fun _ => True) [(mM, .inr (2, [.int (nI 0), .int (nI R), .ref mX, .int (nI ts), .ref mO, .int (nI os), .int (nI (hi - lo)), .ref mT, .ref mS, .ref mB, .int (nI (off hi - off lo)), .int (nI hi), .int (nI dr), .int (nI de), .int (nI uw), .int fr, .int to, .int (nI pa)])), (mT, .inl (eT, 16384, .inl Tm)), (mS, .inl (eS, 16384, .inl Sm))])) (va_Qi (fun (r : Int32) (u : Unit) => r = md_about (hi - lo) (fun j => tm (lo + j)) (fun j => off (lo + j + 1) - off (lo + j)) k what) (fun u t => va_P (dC, dI) vwCl [(mM, .inr (2, [.int (nI 0), .int (nI R), .ref mX, .int (nI ts), .ref mO, .int (nI os), .int (nI (hi - lo)), .ref mT, .ref mS, .ref mB, .int (nI (off hi - off lo)), .int (nI hi), .int (nI dr), .int (nI de), .int (nI uw), .int fr, .int to, .int (nI pa)])), (mT, .inl (eT, 16384, .inl Tm)), (mS, .inl (eS, 16384, .inl Sm))] t.heap ∧ va_K (dC, dI) vwCl [(eT, .int), (eS, .int)] t ∧ va_D (va_A [(mM, .inr (2, [.int (nI 0), .int (nI R), .ref mX, .int (nI ts), .ref mO, .int (nI os), .int (nI (hi - lo)), .ref mT, .ref mS, .ref mB, .int (nI (off hi - off lo)), .int (nI hi), .int (nI dr), .int (nI de), .int (nI uw), .int fr, .int to, .int (nI pa)])), (mT, .inl (eT, 16384, .inl Tm)), (mS, .inl (eS, 16384, .inl Sm))] hz) [(mM, .inr (2, [.int (nI 0), .int (nI R), .ref mX, .int (nI ts), .ref mO, .int (nI os), .int (nI (hi - lo)), .ref mT, .ref mS, .ref mB, .int (nI (off hi - off lo)), .int (nI hi), .int (nI dr), .int (nI de), .int (nI uw), .int fr, .int to, .int (nI pa)])), (mT, .inl (eT, 16384, .inl Tm)), (mS, .inl (eS, 16384, .inl Sm))]) (va_A [(mM, .inr (2, [.int (nI 0), .int (nI R), .ref mX, .int (nI ts), .ref mO, .int (nI os), .int (nI (hi - lo)), .ref mT, .ref mS, .ref mB, .int (nI (off hi - off lo)), .int (nI hi), .int (nI dr), .int (nI de), .int (nI uw), .int fr, .int to, .int (nI pa)])), (mT, .inl (eT, 16384, .inl Tm)), (mS, .inl (eS, 16384, .inl Sm))] hz)) 0 0 (va_A [(mM, .inr (2, [.int (nI 0), .int (nI R), .ref mX, .int (nI ts), .ref mO, .int (nI os), .int (nI (hi - lo)), .ref mT, .ref mS, .ref mB, .int (nI (off hi - off lo)), .int (nI hi), .int (nI dr), .int (nI de), .int (nI uw), .int fr, .int to, .int (nI pa)])), (mT, .inl (eT, 16384, .inl Tm)), (mS, .inl (eS, 16384, .inl Sm))] hz) := by
  refine Met.ofW (cc := cM_about) (maxL := 3) (ret := (some .int)) (by decide) rfl ?_
  intro p e s m args below meth c s₁ B hml hv
  obtain ⟨rfl, hsz, hP, hK, hD0⟩ := hv
  have hx := B.exec
  have hb := B.bytes
  have hr := B.returns
  have hts := atoms_spec (ws := wsM_about) B.pre
  have hown : s.vm.findClass RM = some m.cls := findClass_of_methodNamed B.named
  have hlocks := B.notSynchronized
  have hi_M : ∀ w ∈ u_ws RM TM 18, w ∈ wsM_about := by decide +kernel
  subst hsz
  have hD := hD0.self (sz := s.heap.size)
  generalize hAe : va_A [(mM, .inr (2, [.int (nI 0), .int (nI R), .ref mX, .int (nI ts), .ref mO, .int (nI os), .int (nI (hi - lo)), .ref mT, .ref mS, .ref mB, .int (nI (off hi - off lo)), .int (nI hi), .int (nI dr), .int (nI de), .int (nI uw), .int fr, .int to, .int (nI pa)])), (mT, .inl (eT, 16384, .inl Tm)), (mS, .inl (eS, 16384, .inl Sm))] s.heap.size = A at hD ⊢
  have hA : ∀ q : Nat, s.heap.size ≤ q → A q := fun q h => by rw [← hAe]; exact Or.inr h
  have hS : va_S A s.heap s.heap [] := va_S.rf
  have hP : va_P (dC, dI) vwCl [(mM, .inr (2, [.int (nI 0), .int (nI R), .ref mX, .int (nI ts), .ref mO, .int (nI os), .int (nI (hi - lo)), .ref mT, .ref mS, .ref mB, .int (nI (off hi - off lo)), .int (nI hi), .int (nI dr), .int (nI de), .int (nI uw), .int fr, .int to, .int (nI pa)])), (mT, .inl (eT, 16384, .inl Tm)), (mS, .inl (eS, 16384, .inl Sm))] s.heap := hP
  have hl := lv_entry ([.ref mM, .int k, .int what]) (n := 3) (Nat.le_of_ble_eq_true rfl)
  rw [lg_entry_eq]
  generalize (lg_sl ([.ref mM, .int k, .int what]) ++ List.replicate (3 - (lg_sl ([.ref mM, .int k, .int what])).length) Slot.unset).toArray = ls at hl ⊢
  have hl : lv_has ls 3 [(0, .ref mM), (1, .int k), (2, .int what)] := hl
  have hRR := hok.1
  have hll := hok.2.1
  have hcap := hok.2.2.1
  have hgap := hok.gap (Nat.le_refl lo) hll (Nat.le_refl hi)
  refine lv_aload_n hx hb dM_about_0 rfl (lv_at hl 0 rfl) ?_
  refine lv_iconst (v := nI 0) hx hb dM_about_1 (by decide) ?_
  refine va_put (D := (dC, dI)) (ci := 2) (v := .int (nI 0)) (ty := .int) (C := RM) (T := TM) (N := 18) hx hb hts hi_M tyM tyM_ok nmM hown hK hP hD hS 0 rfl rfl 0 (by decide) (hts (.fieldLink RM 30 "PacketStoreModel" "thrown" "I") (by decide +kernel)) (fun _ h9 => h9) rfl (by decide +kernel) rfl rfl (Nat.le_of_ble_eq_true rfl) dM_about_2 (fun H locs hP hD hS => ?_)
  have hP : va_P (dC, dI) vwCl [(mM, .inr (2, [.int (nI 0), .int (nI R), .ref mX, .int (nI ts), .ref mO, .int (nI os), .int (nI (hi - lo)), .ref mT, .ref mS, .ref mB, .int (nI (off hi - off lo)), .int (nI hi), .int (nI dr), .int (nI de), .int (nI uw), .int fr, .int to, .int (nI pa)])), (mT, .inl (eT, 16384, .inl Tm)), (mS, .inl (eS, 16384, .inl Sm))] H := hP
  have hD : va_D A [(mM, .inr (2, [.int (nI 0), .int (nI R), .ref mX, .int (nI ts), .ref mO, .int (nI os), .int (nI (hi - lo)), .ref mT, .ref mS, .ref mB, .int (nI (off hi - off lo)), .int (nI hi), .int (nI dr), .int (nI de), .int (nI uw), .int fr, .int to, .int (nI pa)])), (mT, .inl (eT, 16384, .inl Tm)), (mS, .inl (eS, 16384, .inl Sm))] := hD
  refine lv_iload_n hx hb dM_about_5 rfl (lv_at hl 1 rfl) ?_
  refine lv_if_lt (tgt := 17) hx hb dM_about_6 (by decide) (fun c6 => ?_) (fun c6 => ?_)
  · refine lv_iconst (v := (-1)) hx hb dM_about_17 (by decide) ?_
    refine lv_goto (tgt := 49) hx hb dM_about_18 (by decide) ?_
    exact W.iret (v := ((-1))) hx hb hr (fun t ht hW => ⟨⟨_, (), rfl, by unfold md_about; rw [md_ix_none (fun ⟨q, h1, h2⟩ => nI_pos (n := q) (by omega) (h2 ▸ c6)) (by omega)], by rw [ht]; exact hP, va_K.moved hW.alike hK, hD⟩, hS.F ht⟩) hS.2.2 dM_about_49
  · refine lv_iload_n hx hb dM_about_9 rfl (lv_at hl 1 rfl) ?_
    refine lv_aload_n hx hb dM_about_10 rfl (lv_at hl 0 rfl) ?_
    refine va_get (D := (dC, dI)) (ci := 2) (v := .int (nI (hi - lo))) (C := RM) (T := TM) (N := 18) hx hb hts hi_M hown hK hP 0 rfl rfl 6 (by decide) (hts (.fieldLink RM 36 "PacketStoreModel" "many" "I") (by decide +kernel)) (fun _ h9 => h9) rfl dM_about_11 ?_
    refine lv_icmp_lt (tgt := 21) hx hb dM_about_14 (by decide) (fun c14 => ?_) (fun c14 => ?_)
    · obtain ⟨i, hi9, ei⟩ := (pk_ix k (show hi - lo < 2 ^ 31 by omega)).elim (fun h => absurd h c6) (fun h => h.elim (fun h => absurd c14 (Int32.not_lt.mpr h)) id)
      subst ei
      refine lv_iload_n hx hb dM_about_21 rfl (lv_at hl 2 rfl) ?_
      refine lv_if_ne (tgt := 34) hx hb dM_about_22 (by decide) (fun c22 => ?_) (fun c22 => ?_)
      · refine lv_iload_n hx hb dM_about_34 rfl (lv_at hl 2 rfl) ?_
        refine lv_iconst (v := nI 1) hx hb dM_about_35 (by decide) ?_
        refine lv_icmp_ne (tgt := 48) hx hb dM_about_36 (by decide) (fun c36 => ?_) (fun c36 => ?_)
        · refine lv_iconst (v := (-1)) hx hb dM_about_48 (by decide) ?_
          exact W.iret (v := ((-1))) hx hb hr (fun t ht hW => ⟨⟨_, (), rfl, by unfold md_about; rw [md_ix_some hi9 (by omega)]; exact ((if_neg c22).trans (if_neg c36)).symm, by rw [ht]; exact hP, va_K.moved hW.alike hK, hD⟩, hS.F ht⟩) hS.2.2 dM_about_49
        · refine lv_aload_n hx hb dM_about_39 rfl (lv_at hl 0 rfl) ?_
          refine va_get (D := (dC, dI)) (ci := 2) (v := .ref mS) (C := RM) (T := TM) (N := 18) hx hb hts hi_M hown hK hP 0 rfl rfl 8 (by decide) (hts (.fieldLink RM 20 "PacketStoreModel" "size" "[I") (by decide +kernel)) (fun _ h9 => h9) rfl dM_about_40 ?_
          refine lv_iload_n hx hb dM_about_43 rfl (lv_at hl 1 rfl) ?_
          refine zz_iald hx hb hK hP 2 1 rfl rfl (j := i) (by omega) (by omega) dM_about_44 ?_
          refine lv_goto (tgt := 49) hx hb dM_about_45 (by decide) ?_
          exact W.iret (v := (Sm i)) hx hb hr (fun t ht hW => ⟨⟨_, (), rfl, by unfold md_about; rw [md_ix_some hi9 (by omega)]; exact (hrm.2.1 i hi9).trans ((if_neg c22).trans (if_pos c36)).symm, by rw [ht]; exact hP, va_K.moved hW.alike hK, hD⟩, hS.F ht⟩) hS.2.2 dM_about_49
      · refine lv_aload_n hx hb dM_about_25 rfl (lv_at hl 0 rfl) ?_
        refine va_get (D := (dC, dI)) (ci := 2) (v := .ref mT) (C := RM) (T := TM) (N := 18) hx hb hts hi_M hown hK hP 0 rfl rfl 7 (by decide) (hts (.fieldLink RM 16 "PacketStoreModel" "time" "[I") (by decide +kernel)) (fun _ h9 => h9) rfl dM_about_26 ?_
        refine lv_iload_n hx hb dM_about_29 rfl (lv_at hl 1 rfl) ?_
        refine zz_iald hx hb hK hP 1 0 rfl rfl (j := i) (by omega) (by omega) dM_about_30 ?_
        refine lv_goto (tgt := 49) hx hb dM_about_31 (by decide) ?_
        exact W.iret (v := (Tm i)) hx hb hr (fun t ht hW => ⟨⟨_, (), rfl, by unfold md_about; rw [md_ix_some hi9 (by omega)]; exact (hrm.1 i hi9).trans (if_pos c22).symm, by rw [ht]; exact hP, va_K.moved hW.alike hK, hD⟩, hS.F ht⟩) hS.2.2 dM_about_49
    · refine lv_iconst (v := (-1)) hx hb dM_about_17 (by decide) ?_
      refine lv_goto (tgt := 49) hx hb dM_about_18 (by decide) ?_
      exact W.iret (v := ((-1))) hx hb hr (fun t ht hW => ⟨⟨_, (), rfl, by unfold md_about; rw [md_ix_none (fun ⟨q, h1, h2⟩ => c14 (h2 ▸ nI_lt h1 (by omega))) (by omega)], by rw [ht]; exact hP, va_K.moved hW.alike hK, hD⟩, hS.F ht⟩) hS.2.2 dM_about_49
set_option maxHeartbeats 4000000 in
set_option maxRecDepth 100000 in
/-- model: byteAt -/
theorem c_M_byteAt (l : Launch) (dC : Nat → ClassId) (dI : Nat → Nat → Nat) (mM mX mO mT mS mB R lo hi : Nat) (off : Nat → Nat) (ts os dr de uw : Nat) (fr to : Int32) (pa : Nat) (eS eB : ClassId) (Tm Sm Bm tm bz : Nat → Int32) (k j : Int32) (hok : rg_ok R lo hi off) (hrm : rm_rep lo hi off tm bz Bm Sm Tm) (hz : Nat) : Met l yM_byteAt wsM_byteAt ({ frames := 1, cells := 0, slots := 0, locals := 23 }) (va_Pc [.ref mM, .int k, .int j] (fun U => U.heap.size = hz ∧ va_P (dC, dI) vwCl [(mM, .inr (2, [.int (nI 0), .int (nI R), .ref mX, .int (nI ts), .ref mO, .int (nI os), .int (nI (hi - lo)), .ref mT, .ref mS, .ref mB, .int (nI (off hi - off lo)), .int (nI hi), .int (nI dr), .int (nI de), .int (nI uw), .int fr, .int to, .int (nI pa)])), (mS, .inl (eS, 16384, .inl Sm)), (mB, .inl (eB, 16384, .inl Bm))] U.heap ∧ va_K (dC, dI) vwCl [(eS, .int), (eB, .byte)] U ∧ va_D (fun _ => True) [(mM, .inr (2, [.int (nI 0), .int (nI R), .ref mX, .int (nI ts), .ref mO, .int (nI os), .int (nI (hi - lo)), .ref mT, .ref mS, .ref mB, .int (nI (off hi - off lo)), .int (nI hi), .int (nI dr), .int (nI de), .int (nI uw), .int fr, .int to, .int (nI pa)])), (mS, .inl (eS, 16384, .inl Sm)), (mB, .inl (eB, 16384, .inl Bm))])) (va_Qi (fun (r : Int32) (u : Unit) => r = md_byteAt (hi - lo) (fun q => off (lo + q + 1) - off (lo + q)) (fun q t => bz (off (lo + q) + t)) k j) (fun u t => va_P (dC, dI) vwCl [(mM, .inr (2, [.int (nI 0), .int (nI R), .ref mX, .int (nI ts), .ref mO, .int (nI os), .int (nI (hi - lo)), .ref mT, .ref mS, .ref mB, .int (nI (off hi - off lo)), .int (nI hi), .int (nI dr), .int (nI de), .int (nI uw), .int fr, .int to, .int (nI pa)])), (mS, .inl (eS, 16384, .inl Sm)), (mB, .inl (eB, 16384, .inl Bm))] t.heap ∧ va_K (dC, dI) vwCl [(eS, .int), (eB, .byte)] t ∧ va_D (va_A [(mM, .inr (2, [.int (nI 0), .int (nI R), .ref mX, .int (nI ts), .ref mO, .int (nI os), .int (nI (hi - lo)), .ref mT, .ref mS, .ref mB, .int (nI (off hi - off lo)), .int (nI hi), .int (nI dr), .int (nI de), .int (nI uw), .int fr, .int to, .int (nI pa)])), (mS, .inl (eS, 16384, .inl Sm)), (mB, .inl (eB, 16384, .inl Bm))] hz) [(mM, .inr (2, [.int (nI 0), .int (nI R), .ref mX, .int (nI ts), .ref mO, .int (nI os), .int (nI (hi - lo)), .ref mT, .ref mS, .ref mB, .int (nI (off hi - off lo)), .int (nI hi), .int (nI dr), .int (nI de), .int (nI uw), .int fr, .int to, .int (nI pa)])), (mS, .inl (eS, 16384, .inl Sm)), (mB, .inl (eB, 16384, .inl Bm))]) (va_A [(mM, .inr (2, [.int (nI 0), .int (nI R), .ref mX, .int (nI ts), .ref mO, .int (nI os), .int (nI (hi - lo)), .ref mT, .ref mS, .ref mB, .int (nI (off hi - off lo)), .int (nI hi), .int (nI dr), .int (nI de), .int (nI uw), .int fr, .int to, .int (nI pa)])), (mS, .inl (eS, 16384, .inl Sm)), (mB, .inl (eB, 16384, .inl Bm))] hz)) 0 0 (va_A [(mM, .inr (2, [.int (nI 0), .int (nI R), .ref mX, .int (nI ts), .ref mO, .int (nI os), .int (nI (hi - lo)), .ref mT, .ref mS, .ref mB, .int (nI (off hi - off lo)), .int (nI hi), .int (nI dr), .int (nI de), .int (nI uw), .int fr, .int to, .int (nI pa)])), (mS, .inl (eS, 16384, .inl Sm)), (mB, .inl (eB, 16384, .inl Bm))] hz) := by
  refine Met.ofW (cc := cM_byteAt) (maxL := 3) (ret := (some .int)) (by decide) rfl ?_
  intro p e s m args below meth c s₁ B hml hv
  obtain ⟨rfl, hsz, hP, hK, hD0⟩ := hv
  have hx := B.exec
  have hb := B.bytes
  have hr := B.returns
  have hts := atoms_spec (ws := wsM_byteAt) B.pre
  have hown : s.vm.findClass RM = some m.cls := findClass_of_methodNamed B.named
  have hlocks := B.notSynchronized
  have hi_M : ∀ w ∈ u_ws RM TM 18, w ∈ wsM_byteAt := by decide +kernel
  subst hsz
  have hD := hD0.self (sz := s.heap.size)
  generalize hAe : va_A [(mM, .inr (2, [.int (nI 0), .int (nI R), .ref mX, .int (nI ts), .ref mO, .int (nI os), .int (nI (hi - lo)), .ref mT, .ref mS, .ref mB, .int (nI (off hi - off lo)), .int (nI hi), .int (nI dr), .int (nI de), .int (nI uw), .int fr, .int to, .int (nI pa)])), (mS, .inl (eS, 16384, .inl Sm)), (mB, .inl (eB, 16384, .inl Bm))] s.heap.size = A at hD ⊢
  have hA : ∀ q : Nat, s.heap.size ≤ q → A q := fun q h => by rw [← hAe]; exact Or.inr h
  have hS : va_S A s.heap s.heap [] := va_S.rf
  have hP : va_P (dC, dI) vwCl [(mM, .inr (2, [.int (nI 0), .int (nI R), .ref mX, .int (nI ts), .ref mO, .int (nI os), .int (nI (hi - lo)), .ref mT, .ref mS, .ref mB, .int (nI (off hi - off lo)), .int (nI hi), .int (nI dr), .int (nI de), .int (nI uw), .int fr, .int to, .int (nI pa)])), (mS, .inl (eS, 16384, .inl Sm)), (mB, .inl (eB, 16384, .inl Bm))] s.heap := hP
  have hl := lv_entry ([.ref mM, .int k, .int j]) (n := 3) (Nat.le_of_ble_eq_true rfl)
  rw [lg_entry_eq]
  generalize (lg_sl ([.ref mM, .int k, .int j]) ++ List.replicate (3 - (lg_sl ([.ref mM, .int k, .int j])).length) Slot.unset).toArray = ls at hl ⊢
  have hl : lv_has ls 3 [(0, .ref mM), (1, .int k), (2, .int j)] := hl
  have hRR := hok.1
  have hll := hok.2.1
  have hcap := hok.2.2.1
  have hgap := hok.gap (Nat.le_refl lo) hll (Nat.le_refl hi)
  refine lv_aload_n hx hb dM_byteAt_0 rfl (lv_at hl 0 rfl) ?_
  refine lv_iconst (v := nI 0) hx hb dM_byteAt_1 (by decide) ?_
  refine va_put (D := (dC, dI)) (ci := 2) (v := .int (nI 0)) (ty := .int) (C := RM) (T := TM) (N := 18) hx hb hts hi_M tyM tyM_ok nmM hown hK hP hD hS 0 rfl rfl 0 (by decide) (hts (.fieldLink RM 30 "PacketStoreModel" "thrown" "I") (by decide +kernel)) (fun _ h9 => h9) rfl (by decide +kernel) rfl rfl (Nat.le_of_ble_eq_true rfl) dM_byteAt_2 (fun H locs hP hD hS => ?_)
  have hP : va_P (dC, dI) vwCl [(mM, .inr (2, [.int (nI 0), .int (nI R), .ref mX, .int (nI ts), .ref mO, .int (nI os), .int (nI (hi - lo)), .ref mT, .ref mS, .ref mB, .int (nI (off hi - off lo)), .int (nI hi), .int (nI dr), .int (nI de), .int (nI uw), .int fr, .int to, .int (nI pa)])), (mS, .inl (eS, 16384, .inl Sm)), (mB, .inl (eB, 16384, .inl Bm))] H := hP
  have hD : va_D A [(mM, .inr (2, [.int (nI 0), .int (nI R), .ref mX, .int (nI ts), .ref mO, .int (nI os), .int (nI (hi - lo)), .ref mT, .ref mS, .ref mB, .int (nI (off hi - off lo)), .int (nI hi), .int (nI dr), .int (nI de), .int (nI uw), .int fr, .int to, .int (nI pa)])), (mS, .inl (eS, 16384, .inl Sm)), (mB, .inl (eB, 16384, .inl Bm))] := hD
  refine lv_iload_n hx hb dM_byteAt_5 rfl (lv_at hl 1 rfl) ?_
  refine lv_if_lt (tgt := 31) hx hb dM_byteAt_6 (by decide) (fun c6 => ?_) (fun c6 => ?_)
  · refine lv_iconst (v := (-1)) hx hb dM_byteAt_31 (by decide) ?_
    refine lv_goto (tgt := 51) hx hb dM_byteAt_32 (by decide) ?_
    exact W.iret (v := ((-1))) hx hb hr (fun t ht hW => ⟨⟨_, (), rfl, by unfold md_byteAt; rw [md_ix_none (fun ⟨q, h1, h2⟩ => nI_pos (n := q) (by omega) (h2 ▸ c6)) (by omega)], by rw [ht]; exact hP, va_K.moved hW.alike hK, hD⟩, hS.F ht⟩) hS.2.2 dM_byteAt_51
  · refine lv_iload_n hx hb dM_byteAt_9 rfl (lv_at hl 1 rfl) ?_
    refine lv_aload_n hx hb dM_byteAt_10 rfl (lv_at hl 0 rfl) ?_
    refine va_get (D := (dC, dI)) (ci := 2) (v := .int (nI (hi - lo))) (C := RM) (T := TM) (N := 18) hx hb hts hi_M hown hK hP 0 rfl rfl 6 (by decide) (hts (.fieldLink RM 36 "PacketStoreModel" "many" "I") (by decide +kernel)) (fun _ h9 => h9) rfl dM_byteAt_11 ?_
    refine lv_icmp_ge (tgt := 31) hx hb dM_byteAt_14 (by decide) (fun c14 => ?_) (fun c14 => ?_)
    · refine lv_iconst (v := (-1)) hx hb dM_byteAt_31 (by decide) ?_
      refine lv_goto (tgt := 51) hx hb dM_byteAt_32 (by decide) ?_
      exact W.iret (v := ((-1))) hx hb hr (fun t ht hW => ⟨⟨_, (), rfl, by unfold md_byteAt; rw [md_ix_none (fun ⟨q, h1, h2⟩ => nI_ge h1 (by omega) (h2 ▸ c14)) (by omega)], by rw [ht]; exact hP, va_K.moved hW.alike hK, hD⟩, hS.F ht⟩) hS.2.2 dM_byteAt_51
    · obtain ⟨i, hi9, ei⟩ := (pk_ix k (show hi - lo < 2 ^ 31 by omega)).elim (fun h => absurd h c6) (fun h => h.elim (fun h => absurd h c14) id)
      subst ei
      have hk1 : off (lo + i) < off (lo + i + 1) := hok.2.2.2 (lo + i) (by omega) (by omega)
      have hk2 : off lo + (lo + i - lo) ≤ off (lo + i) := hok.gap (Nat.le_refl lo) (by omega) (by omega)
      have hk3 : off (lo + i + 1) + (hi - (lo + i + 1)) ≤ off hi := hok.gap (by omega) (by omega) (Nat.le_refl hi)
      refine lv_iload_n hx hb dM_byteAt_17 rfl (lv_at hl 2 rfl) ?_
      refine lv_if_lt (tgt := 31) hx hb dM_byteAt_18 (by decide) (fun c18 => ?_) (fun c18 => ?_)
      · refine lv_iconst (v := (-1)) hx hb dM_byteAt_31 (by decide) ?_
        refine lv_goto (tgt := 51) hx hb dM_byteAt_32 (by decide) ?_
        exact W.iret (v := ((-1))) hx hb hr (fun t ht hW => ⟨⟨_, (), rfl, by unfold md_byteAt; rw [md_ix_some hi9 (by omega)]; show _ = match md_ix (off (lo + i + 1) - off (lo + i)) j with | none => (-1 : Int32) | some t => bz (off (lo + i) + t) &&& 255; rw [md_ix_none (fun ⟨q, h1, h2⟩ => nI_pos (n := q) (by omega) (h2 ▸ c18)) (by omega)], by rw [ht]; exact hP, va_K.moved hW.alike hK, hD⟩, hS.F ht⟩) hS.2.2 dM_byteAt_51
      · refine lv_iload_n hx hb dM_byteAt_21 rfl (lv_at hl 2 rfl) ?_
        refine lv_aload_n hx hb dM_byteAt_22 rfl (lv_at hl 0 rfl) ?_
        refine va_get (D := (dC, dI)) (ci := 2) (v := .ref mS) (C := RM) (T := TM) (N := 18) hx hb hts hi_M hown hK hP 0 rfl rfl 8 (by decide) (hts (.fieldLink RM 20 "PacketStoreModel" "size" "[I") (by decide +kernel)) (fun _ h9 => h9) rfl dM_byteAt_23 ?_
        refine lv_iload_n hx hb dM_byteAt_26 rfl (lv_at hl 1 rfl) ?_
        refine zz_iald hx hb hK hP 1 0 rfl rfl (j := i) (by omega) (by omega) dM_byteAt_27 ?_
        refine zz_as (nI (off (lo + i + 1) - off (lo + i))) (hrm.2.1 i hi9) ?_
        refine lv_icmp_lt (tgt := 35) hx hb dM_byteAt_28 (by decide) (fun c28 => ?_) (fun c28 => ?_)
        · obtain ⟨g, hg, eg⟩ := (pk_ix j (show off (lo + i + 1) - off (lo + i) < 2 ^ 31 by omega)).elim (fun h => absurd h c18) (fun h => h.elim (fun h => absurd c28 (Int32.not_lt.mpr h)) id)
          subst eg
          refine lv_aload_n hx hb dM_byteAt_35 rfl (lv_at hl 0 rfl) ?_
          refine va_get (D := (dC, dI)) (ci := 2) (v := .ref mB) (C := RM) (T := TM) (N := 18) hx hb hts hi_M hown hK hP 0 rfl rfl 9 (by decide) (hts (.fieldLink RM 23 "PacketStoreModel" "bytes" "[B") (by decide +kernel)) (fun _ h9 => h9) rfl dM_byteAt_36 ?_
          refine lv_aload_n hx hb dM_byteAt_39 rfl (lv_at hl 0 rfl) ?_
          refine lv_iload_n hx hb dM_byteAt_40 rfl (lv_at hl 1 rfl) ?_
          refine zz_callR (As := [.int (nI i)]) (rest := [.ref mB]) ⟨hx, hb, hml, hown, hts⟩ (c_M_start l dC dI mM mX mO mT mS mB R lo hi off ts os dr de uw fr to pa eS Sm i hok hrm.2.1 (by omega)) (cwV 1 hts gM_byteAt_start rfl rfl rfl (by decide +kernel) ⟨Nat.le_of_ble_eq_true rfl, Nat.le_of_ble_eq_true rfl⟩) (hP.sub [0, 1] rfl) (hK.sub [0] rfl) 0 rfl rfl rfl rfl hl.1 rfl (Nat.le_of_ble_eq_true rfl) dM_byteAt_41 ⟨Nat.zero_le _, Nat.zero_le _⟩ (fun r41 e41 => ?_)
          subst e41
          refine lv_iload_n hx hb dM_byteAt_44 rfl (lv_at hl 2 rfl) ?_
          refine lv_iadd hx hb dM_byteAt_45 ?_
          refine zz_as (nI ((off (lo + i) - off lo) + g)) (nI_add _ _) ?_
          refine zz_bald hx hb hK hP 2 1 rfl rfl (j := (off (lo + i) - off lo) + g) (by omega) (by omega) dM_byteAt_46 ?_
          refine zz_as ((bz (off (lo + i) + g)).toInt8.toInt32) (by rw [hrm.2.2 _ (by omega), show off lo + (off (lo + i) - off lo + g) = off (lo + i) + g by omega]) ?_
          refine lv_sipush (v := nI 255) hx hb dM_byteAt_47 (by decide) ?_
          refine lv_iand hx hb dM_byteAt_50 ?_
          exact W.iret (v := ((((bz (off (lo + i) + g)).toInt8.toInt32)) &&& ((nI 255)))) hx hb hr (fun t ht hW => ⟨⟨_, (), rfl, by unfold md_byteAt; rw [md_ix_some hi9 (by omega)]; show _ = match md_ix (off (lo + i + 1) - off (lo + i)) (nI g) with | none => (-1 : Int32) | some t => bz (off (lo + i) + t) &&& 255; rw [md_ix_some hg (by omega)]; exact zz_255 _, by rw [ht]; exact hP, va_K.moved hW.alike hK, hD⟩, hS.F ht⟩) hS.2.2 dM_byteAt_51
        · refine lv_iconst (v := (-1)) hx hb dM_byteAt_31 (by decide) ?_
          refine lv_goto (tgt := 51) hx hb dM_byteAt_32 (by decide) ?_
          exact W.iret (v := ((-1))) hx hb hr (fun t ht hW => ⟨⟨_, (), rfl, by unfold md_byteAt; rw [md_ix_some hi9 (by omega)]; show _ = match md_ix (off (lo + i + 1) - off (lo + i)) j with | none => (-1 : Int32) | some t => bz (off (lo + i) + t) &&& 255; rw [md_ix_none (fun ⟨q, h1, h2⟩ => c28 (h2 ▸ nI_lt h1 (by omega))) (by omega)], by rw [ht]; exact hP, va_K.moved hW.alike hK, hD⟩, hS.F ht⟩) hS.2.2 dM_byteAt_51
theorem md_room_mid {room : Int32} (h1 : nI 64 ≤ room) (h2 : room ≤ nI 16384) : room = nI (md_room room) := by
  unfold md_room
  rw [if_neg (Int32.not_lt.mpr h1), if_neg (Int32.not_lt.mpr h2)]
  have h4 : ¬ room < 0 := by
    rw [Int32.le_iff_toInt_le, nI_toInt (by omega)] at h1
    rw [Int32.lt_iff_toInt_lt]
    have h0 : (0 : Int32).toInt = 0 := by decide
    omega
  obtain ⟨j, hj, e⟩ := nI_of h4
  subst e
  rw [nI_clamp hj]
set_option maxHeartbeats 4000000 in
set_option maxRecDepth 100000 in
/-- PacketStoreModel: a new one -/
theorem c_M_init (l : Launch) (dC : Nat → ClassId) (dI : Nat → Nat → Nat) (mM : Nat) (room : Int32)  (hz : Nat) : Met l yM_init wsM_init ({ frames := 1, cells := 5, slots := 50176, locals := 16 }) (va_Pc [.ref mM, .int room] (fun U => U.heap.size = hz ∧ va_P (dC, dI) vwCl [(mM, .inr (2, [.int 0, .int 0, .null, .int 0, .null, .int 0, .int 0, .null, .null, .null, .int 0, .int 0, .int 0, .int 0, .int 0, .int 0, .int 0, .int 0]))] U.heap ∧ va_K (dC, dI) vwCl [] U ∧ va_D (fun _ => True) [(mM, .inr (2, [.int 0, .int 0, .null, .int 0, .null, .int 0, .int 0, .null, .null, .null, .int 0, .int 0, .int 0, .int 0, .int 0, .int 0, .int 0, .int 0]))])) (va_Qv (fun (u : Unit) => True) (fun u t => ∃ (mX mO mT mS mB : Nat) (eX eO eT eS eB : ClassId), va_P (dC, dI) vwCl [(mM, .inr (2, [.int 0, .int (nI (md_room room)), .ref mX, .int 0, .ref mO, .int 0, .int 0, .ref mT, .ref mS, .ref mB, .int 0, .int 0, .int 0, .int 0, .int 0, .int 0, .int 0, .int 0])), (mX, .inl (eX, 512, .inl (fun _ => 0))), (mO, .inl (eO, 512, .inl (fun _ => 0))), (mT, .inl (eT, 16384, .inl (fun _ => 0))), (mS, .inl (eS, 16384, .inl (fun _ => 0))), (mB, .inl (eB, 16384, .inl (fun _ => 0)))] t.heap ∧ va_K (dC, dI) vwCl [(eX, .byte), (eO, .byte), (eT, .int), (eS, .int), (eB, .byte)] t ∧ va_D (va_A [(mM, .inr (2, [.int 0, .int 0, .null, .int 0, .null, .int 0, .int 0, .null, .null, .null, .int 0, .int 0, .int 0, .int 0, .int 0, .int 0, .int 0, .int 0]))] hz) [(mM, .inr (2, [.int 0, .int (nI (md_room room)), .ref mX, .int 0, .ref mO, .int 0, .int 0, .ref mT, .ref mS, .ref mB, .int 0, .int 0, .int 0, .int 0, .int 0, .int 0, .int 0, .int 0])), (mX, .inl (eX, 512, .inl (fun _ => 0))), (mO, .inl (eO, 512, .inl (fun _ => 0))), (mT, .inl (eT, 16384, .inl (fun _ => 0))), (mS, .inl (eS, 16384, .inl (fun _ => 0))), (mB, .inl (eB, 16384, .inl (fun _ => 0)))]) (va_A [(mM, .inr (2, [.int 0, .int 0, .null, .int 0, .null, .int 0, .int 0, .null, .null, .null, .int 0, .int 0, .int 0, .int 0, .int 0, .int 0, .int 0, .int 0]))] hz)) 5 50176 (va_A [(mM, .inr (2, [.int 0, .int 0, .null, .int 0, .null, .int 0, .int 0, .null, .null, .null, .int 0, .int 0, .int 0, .int 0, .int 0, .int 0, .int 0, .int 0]))] hz) := by
  refine Met.ofW (cc := cM_init) (maxL := 2) (ret := none) (by decide) rfl ?_
  intro p e s m args below meth c s₁ B hml hv
  obtain ⟨rfl, hsz, hP, hK, hD0⟩ := hv
  have hx := B.exec
  have hb := B.bytes
  have hr := B.returns
  have hts := atoms_spec (ws := wsM_init) B.pre
  have hown : s.vm.findClass RM = some m.cls := findClass_of_methodNamed B.named
  have hlocks := B.notSynchronized
  have hin : meth.name = "<init>" := (name_of_methodNamed B.named B.method).1
  have hi_M : ∀ w ∈ u_ws RM TM 18, w ∈ wsM_init := by decide +kernel
  subst hsz
  have hD := hD0.self (sz := s.heap.size)
  generalize hAe : va_A [(mM, .inr (2, [.int 0, .int 0, .null, .int 0, .null, .int 0, .int 0, .null, .null, .null, .int 0, .int 0, .int 0, .int 0, .int 0, .int 0, .int 0, .int 0]))] s.heap.size = A at hD ⊢
  have hA : ∀ q : Nat, s.heap.size ≤ q → A q := fun q h => by rw [← hAe]; exact Or.inr h
  have hS : va_S A s.heap s.heap [] := va_S.rf
  have hP : va_P (dC, dI) vwCl [(mM, .inr (2, [.int 0, .int 0, .null, .int 0, .null, .int 0, .int 0, .null, .null, .null, .int 0, .int 0, .int 0, .int 0, .int 0, .int 0, .int 0, .int 0]))] s.heap := hP
  have hl := lv_entry ([.ref mM, .int room]) (n := 2) (Nat.le_of_ble_eq_true rfl)
  rw [lg_entry_eq]
  generalize (lg_sl ([.ref mM, .int room]) ++ List.replicate (2 - (lg_sl ([.ref mM, .int room])).length) Slot.unset).toArray = ls at hl ⊢
  have hl : lv_has ls 2 [(0, .ref mM), (1, .int room)] := hl
  refine lv_aload_n hx hb dM_init_0 rfl (lv_at hl 0 rfl) ?_
  refine W.objInit hx hb hown (hts (.methodLink RM 1 objectInit) (by decide +kernel)) (hts (.instanceMethod objectInit) (by decide +kernel)) (hts (.code objectInit ⟨#[0xb1]⟩ 1 none) (by decide +kernel)) rfl (by rw [hml]; exact hl.1) rfl dM_init_1 (Nat.le_of_ble_eq_true rfl) (Nat.le_of_ble_eq_true rfl) ?_
  refine W.eq (g2 := F0 m 4 ls []) rfl ?_
  refine lv_aload_n hx hb dM_init_4 rfl (lv_at hl 0 rfl) ?_
  refine lv_sipush (v := nI 512) hx hb dM_init_5 (by decide) ?_
  refine va_newa (atype := .byte) hx hb (hts (.arrayClass .byte) (by decide +kernel)) rfl hK hP hD hS hA (N' := 512) (a0 := (512, .inl (fun _ => 0))) (fun _ => rfl) (nI_pos (by omega)) (nI_clamp (by omega)) (by decide) (Nat.le_of_ble_eq_true rfl) (Nat.le_of_ble_eq_true rfl) dM_init_8 (fun mX eX H hK hP hD hS => ?_)
  have hP : va_P (dC, dI) vwCl [(mM, .inr (2, [.int 0, .int 0, .null, .int 0, .null, .int 0, .int 0, .null, .null, .null, .int 0, .int 0, .int 0, .int 0, .int 0, .int 0, .int 0, .int 0])), (mX, .inl (eX, 512, .inl (fun _ => 0)))] H := hP
  have hD : va_D A [(mM, .inr (2, [.int 0, .int 0, .null, .int 0, .null, .int 0, .int 0, .null, .null, .null, .int 0, .int 0, .int 0, .int 0, .int 0, .int 0, .int 0, .int 0])), (mX, .inl (eX, 512, .inl (fun _ => 0)))] := hD
  have hK : va_K (dC, dI) vwCl [(eX, .byte)] s := hK
  refine W.widen (k := 1) (n := 512) (by omega) (by omega) ?_
  refine va_putF (D := (dC, dI)) (ci := 2) (v := .ref mX) (ty := .array .byte) (C := RM) (T := TM) (N := 18) hx hb hts hi_M tyM tyM_ok nmM hown hK hP hD hS 0 rfl rfl 2 (by decide) (hts (.fieldLink RM 7 "PacketStoreModel" "text" "[B") (by decide +kernel)) (fun _ h9 => h9) rfl hin rfl (by decide +kernel) rfl rfl (Nat.le_of_ble_eq_true rfl) dM_init_10 (fun H locs hP hD hS => ?_)
  have hP : va_P (dC, dI) vwCl [(mM, .inr (2, [.int 0, .int 0, .ref mX, .int 0, .null, .int 0, .int 0, .null, .null, .null, .int 0, .int 0, .int 0, .int 0, .int 0, .int 0, .int 0, .int 0])), (mX, .inl (eX, 512, .inl (fun _ => 0)))] H := hP
  have hD : va_D A [(mM, .inr (2, [.int 0, .int 0, .ref mX, .int 0, .null, .int 0, .int 0, .null, .null, .null, .int 0, .int 0, .int 0, .int 0, .int 0, .int 0, .int 0, .int 0])), (mX, .inl (eX, 512, .inl (fun _ => 0)))] := hD
  refine lv_aload_n hx hb dM_init_13 rfl (lv_at hl 0 rfl) ?_
  refine lv_sipush (v := nI 512) hx hb dM_init_14 (by decide) ?_
  refine va_newa (atype := .byte) hx hb (hts (.arrayClass .byte) (by decide +kernel)) rfl hK hP hD hS hA (N' := 512) (a0 := (512, .inl (fun _ => 0))) (fun _ => rfl) (nI_pos (by omega)) (nI_clamp (by omega)) (by decide) (Nat.le_of_ble_eq_true rfl) (Nat.le_of_ble_eq_true rfl) dM_init_17 (fun mO eO H hK hP hD hS => ?_)
  have hP : va_P (dC, dI) vwCl [(mM, .inr (2, [.int 0, .int 0, .ref mX, .int 0, .null, .int 0, .int 0, .null, .null, .null, .int 0, .int 0, .int 0, .int 0, .int 0, .int 0, .int 0, .int 0])), (mX, .inl (eX, 512, .inl (fun _ => 0))), (mO, .inl (eO, 512, .inl (fun _ => 0)))] H := hP
  have hD : va_D A [(mM, .inr (2, [.int 0, .int 0, .ref mX, .int 0, .null, .int 0, .int 0, .null, .null, .null, .int 0, .int 0, .int 0, .int 0, .int 0, .int 0, .int 0, .int 0])), (mX, .inl (eX, 512, .inl (fun _ => 0))), (mO, .inl (eO, 512, .inl (fun _ => 0)))] := hD
  have hK : va_K (dC, dI) vwCl [(eX, .byte), (eO, .byte)] s := hK
  refine W.widen (k := 2) (n := 1024) (by omega) (by omega) ?_
  refine va_putF (D := (dC, dI)) (ci := 2) (v := .ref mO) (ty := .array .byte) (C := RM) (T := TM) (N := 18) hx hb hts hi_M tyM tyM_ok nmM hown hK hP hD hS 0 rfl rfl 4 (by decide) (hts (.fieldLink RM 13 "PacketStoreModel" "out" "[B") (by decide +kernel)) (fun _ h9 => h9) rfl hin rfl (by decide +kernel) rfl rfl (Nat.le_of_ble_eq_true rfl) dM_init_19 (fun H locs hP hD hS => ?_)
  have hP : va_P (dC, dI) vwCl [(mM, .inr (2, [.int 0, .int 0, .ref mX, .int 0, .ref mO, .int 0, .int 0, .null, .null, .null, .int 0, .int 0, .int 0, .int 0, .int 0, .int 0, .int 0, .int 0])), (mX, .inl (eX, 512, .inl (fun _ => 0))), (mO, .inl (eO, 512, .inl (fun _ => 0)))] H := hP
  have hD : va_D A [(mM, .inr (2, [.int 0, .int 0, .ref mX, .int 0, .ref mO, .int 0, .int 0, .null, .null, .null, .int 0, .int 0, .int 0, .int 0, .int 0, .int 0, .int 0, .int 0])), (mX, .inl (eX, 512, .inl (fun _ => 0))), (mO, .inl (eO, 512, .inl (fun _ => 0)))] := hD
  refine lv_aload_n hx hb dM_init_22 rfl (lv_at hl 0 rfl) ?_
  refine lv_sipush (v := nI 16384) hx hb dM_init_23 (by decide) ?_
  refine va_newa (atype := .int) hx hb (hts (.arrayClass .int) (by decide +kernel)) rfl hK hP hD hS hA (N' := 16384) (a0 := (16384, .inl (fun _ => 0))) (fun _ => rfl) (nI_pos (by omega)) (nI_clamp (by omega)) (by decide) (Nat.le_of_ble_eq_true rfl) (Nat.le_of_ble_eq_true rfl) dM_init_26 (fun mT eT H hK hP hD hS => ?_)
  have hP : va_P (dC, dI) vwCl [(mM, .inr (2, [.int 0, .int 0, .ref mX, .int 0, .ref mO, .int 0, .int 0, .null, .null, .null, .int 0, .int 0, .int 0, .int 0, .int 0, .int 0, .int 0, .int 0])), (mX, .inl (eX, 512, .inl (fun _ => 0))), (mO, .inl (eO, 512, .inl (fun _ => 0))), (mT, .inl (eT, 16384, .inl (fun _ => 0)))] H := hP
  have hD : va_D A [(mM, .inr (2, [.int 0, .int 0, .ref mX, .int 0, .ref mO, .int 0, .int 0, .null, .null, .null, .int 0, .int 0, .int 0, .int 0, .int 0, .int 0, .int 0, .int 0])), (mX, .inl (eX, 512, .inl (fun _ => 0))), (mO, .inl (eO, 512, .inl (fun _ => 0))), (mT, .inl (eT, 16384, .inl (fun _ => 0)))] := hD
  have hK : va_K (dC, dI) vwCl [(eX, .byte), (eO, .byte), (eT, .int)] s := hK
  refine W.widen (k := 3) (n := 17408) (by omega) (by omega) ?_
  refine va_putF (D := (dC, dI)) (ci := 2) (v := .ref mT) (ty := .array .int) (C := RM) (T := TM) (N := 18) hx hb hts hi_M tyM tyM_ok nmM hown hK hP hD hS 0 rfl rfl 7 (by decide) (hts (.fieldLink RM 16 "PacketStoreModel" "time" "[I") (by decide +kernel)) (fun _ h9 => h9) rfl hin rfl (by decide +kernel) rfl rfl (Nat.le_of_ble_eq_true rfl) dM_init_28 (fun H locs hP hD hS => ?_)
  have hP : va_P (dC, dI) vwCl [(mM, .inr (2, [.int 0, .int 0, .ref mX, .int 0, .ref mO, .int 0, .int 0, .ref mT, .null, .null, .int 0, .int 0, .int 0, .int 0, .int 0, .int 0, .int 0, .int 0])), (mX, .inl (eX, 512, .inl (fun _ => 0))), (mO, .inl (eO, 512, .inl (fun _ => 0))), (mT, .inl (eT, 16384, .inl (fun _ => 0)))] H := hP
  have hD : va_D A [(mM, .inr (2, [.int 0, .int 0, .ref mX, .int 0, .ref mO, .int 0, .int 0, .ref mT, .null, .null, .int 0, .int 0, .int 0, .int 0, .int 0, .int 0, .int 0, .int 0])), (mX, .inl (eX, 512, .inl (fun _ => 0))), (mO, .inl (eO, 512, .inl (fun _ => 0))), (mT, .inl (eT, 16384, .inl (fun _ => 0)))] := hD
  refine lv_aload_n hx hb dM_init_31 rfl (lv_at hl 0 rfl) ?_
  refine lv_sipush (v := nI 16384) hx hb dM_init_32 (by decide) ?_
  refine va_newa (atype := .int) hx hb (hts (.arrayClass .int) (by decide +kernel)) rfl hK hP hD hS hA (N' := 16384) (a0 := (16384, .inl (fun _ => 0))) (fun _ => rfl) (nI_pos (by omega)) (nI_clamp (by omega)) (by decide) (Nat.le_of_ble_eq_true rfl) (Nat.le_of_ble_eq_true rfl) dM_init_35 (fun mS eS H hK hP hD hS => ?_)
  have hP : va_P (dC, dI) vwCl [(mM, .inr (2, [.int 0, .int 0, .ref mX, .int 0, .ref mO, .int 0, .int 0, .ref mT, .null, .null, .int 0, .int 0, .int 0, .int 0, .int 0, .int 0, .int 0, .int 0])), (mX, .inl (eX, 512, .inl (fun _ => 0))), (mO, .inl (eO, 512, .inl (fun _ => 0))), (mT, .inl (eT, 16384, .inl (fun _ => 0))), (mS, .inl (eS, 16384, .inl (fun _ => 0)))] H := hP
  have hD : va_D A [(mM, .inr (2, [.int 0, .int 0, .ref mX, .int 0, .ref mO, .int 0, .int 0, .ref mT, .null, .null, .int 0, .int 0, .int 0, .int 0, .int 0, .int 0, .int 0, .int 0])), (mX, .inl (eX, 512, .inl (fun _ => 0))), (mO, .inl (eO, 512, .inl (fun _ => 0))), (mT, .inl (eT, 16384, .inl (fun _ => 0))), (mS, .inl (eS, 16384, .inl (fun _ => 0)))] := hD
  have hK : va_K (dC, dI) vwCl [(eX, .byte), (eO, .byte), (eT, .int), (eS, .int)] s := hK
  refine W.widen (k := 4) (n := 33792) (by omega) (by omega) ?_
  refine va_putF (D := (dC, dI)) (ci := 2) (v := .ref mS) (ty := .array .int) (C := RM) (T := TM) (N := 18) hx hb hts hi_M tyM tyM_ok nmM hown hK hP hD hS 0 rfl rfl 8 (by decide) (hts (.fieldLink RM 20 "PacketStoreModel" "size" "[I") (by decide +kernel)) (fun _ h9 => h9) rfl hin rfl (by decide +kernel) rfl rfl (Nat.le_of_ble_eq_true rfl) dM_init_37 (fun H locs hP hD hS => ?_)
  have hP : va_P (dC, dI) vwCl [(mM, .inr (2, [.int 0, .int 0, .ref mX, .int 0, .ref mO, .int 0, .int 0, .ref mT, .ref mS, .null, .int 0, .int 0, .int 0, .int 0, .int 0, .int 0, .int 0, .int 0])), (mX, .inl (eX, 512, .inl (fun _ => 0))), (mO, .inl (eO, 512, .inl (fun _ => 0))), (mT, .inl (eT, 16384, .inl (fun _ => 0))), (mS, .inl (eS, 16384, .inl (fun _ => 0)))] H := hP
  have hD : va_D A [(mM, .inr (2, [.int 0, .int 0, .ref mX, .int 0, .ref mO, .int 0, .int 0, .ref mT, .ref mS, .null, .int 0, .int 0, .int 0, .int 0, .int 0, .int 0, .int 0, .int 0])), (mX, .inl (eX, 512, .inl (fun _ => 0))), (mO, .inl (eO, 512, .inl (fun _ => 0))), (mT, .inl (eT, 16384, .inl (fun _ => 0))), (mS, .inl (eS, 16384, .inl (fun _ => 0)))] := hD
  refine lv_aload_n hx hb dM_init_40 rfl (lv_at hl 0 rfl) ?_
  refine lv_sipush (v := nI 16384) hx hb dM_init_41 (by decide) ?_
  refine va_newa (atype := .byte) hx hb (hts (.arrayClass .byte) (by decide +kernel)) rfl hK hP hD hS hA (N' := 16384) (a0 := (16384, .inl (fun _ => 0))) (fun _ => rfl) (nI_pos (by omega)) (nI_clamp (by omega)) (by decide) (Nat.le_of_ble_eq_true rfl) (Nat.le_of_ble_eq_true rfl) dM_init_44 (fun mB eB H hK hP hD hS => ?_)
  have hP : va_P (dC, dI) vwCl [(mM, .inr (2, [.int 0, .int 0, .ref mX, .int 0, .ref mO, .int 0, .int 0, .ref mT, .ref mS, .null, .int 0, .int 0, .int 0, .int 0, .int 0, .int 0, .int 0, .int 0])), (mX, .inl (eX, 512, .inl (fun _ => 0))), (mO, .inl (eO, 512, .inl (fun _ => 0))), (mT, .inl (eT, 16384, .inl (fun _ => 0))), (mS, .inl (eS, 16384, .inl (fun _ => 0))), (mB, .inl (eB, 16384, .inl (fun _ => 0)))] H := hP
  have hD : va_D A [(mM, .inr (2, [.int 0, .int 0, .ref mX, .int 0, .ref mO, .int 0, .int 0, .ref mT, .ref mS, .null, .int 0, .int 0, .int 0, .int 0, .int 0, .int 0, .int 0, .int 0])), (mX, .inl (eX, 512, .inl (fun _ => 0))), (mO, .inl (eO, 512, .inl (fun _ => 0))), (mT, .inl (eT, 16384, .inl (fun _ => 0))), (mS, .inl (eS, 16384, .inl (fun _ => 0))), (mB, .inl (eB, 16384, .inl (fun _ => 0)))] := hD
  have hK : va_K (dC, dI) vwCl [(eX, .byte), (eO, .byte), (eT, .int), (eS, .int), (eB, .byte)] s := hK
  refine W.widen (k := 5) (n := 50176) (by omega) (by omega) ?_
  refine va_putF (D := (dC, dI)) (ci := 2) (v := .ref mB) (ty := .array .byte) (C := RM) (T := TM) (N := 18) hx hb hts hi_M tyM tyM_ok nmM hown hK hP hD hS 0 rfl rfl 9 (by decide) (hts (.fieldLink RM 23 "PacketStoreModel" "bytes" "[B") (by decide +kernel)) (fun _ h9 => h9) rfl hin rfl (by decide +kernel) rfl rfl (Nat.le_of_ble_eq_true rfl) dM_init_46 (fun H locs hP hD hS => ?_)
  have hP : va_P (dC, dI) vwCl [(mM, .inr (2, [.int 0, .int 0, .ref mX, .int 0, .ref mO, .int 0, .int 0, .ref mT, .ref mS, .ref mB, .int 0, .int 0, .int 0, .int 0, .int 0, .int 0, .int 0, .int 0])), (mX, .inl (eX, 512, .inl (fun _ => 0))), (mO, .inl (eO, 512, .inl (fun _ => 0))), (mT, .inl (eT, 16384, .inl (fun _ => 0))), (mS, .inl (eS, 16384, .inl (fun _ => 0))), (mB, .inl (eB, 16384, .inl (fun _ => 0)))] H := hP
  have hD : va_D A [(mM, .inr (2, [.int 0, .int 0, .ref mX, .int 0, .ref mO, .int 0, .int 0, .ref mT, .ref mS, .ref mB, .int 0, .int 0, .int 0, .int 0, .int 0, .int 0, .int 0, .int 0])), (mX, .inl (eX, 512, .inl (fun _ => 0))), (mO, .inl (eO, 512, .inl (fun _ => 0))), (mT, .inl (eT, 16384, .inl (fun _ => 0))), (mS, .inl (eS, 16384, .inl (fun _ => 0))), (mB, .inl (eB, 16384, .inl (fun _ => 0)))] := hD
  refine lv_aload_n hx hb dM_init_49 rfl (lv_at hl 0 rfl) ?_
  refine lv_iload_n hx hb dM_init_50 rfl (lv_at hl 1 rfl) ?_
  refine lv_bipush (v := nI 64) hx hb dM_init_51 (by decide) ?_
  refine lv_icmp_ge (tgt := 61) hx hb dM_init_53 (by decide) (fun c53 => ?_) (fun c53 => ?_)
  · refine lv_iload_n hx hb dM_init_61 rfl (lv_at hl 1 rfl) ?_
    refine lv_sipush (v := nI 16384) hx hb dM_init_62 (by decide) ?_
    refine lv_icmp_le (tgt := 74) hx hb dM_init_65 (by decide) (fun c65 => ?_) (fun c65 => ?_)
    · refine lv_iload_n hx hb dM_init_74 rfl (lv_at hl 1 rfl) ?_
      refine zz_as (nI (md_room room)) (md_room_mid c53 c65) ?_
      refine va_putF (D := (dC, dI)) (ci := 2) (v := .int (nI (md_room room))) (ty := .int) (C := RM) (T := TM) (N := 18) hx hb hts hi_M tyM tyM_ok nmM hown hK hP hD hS 0 rfl rfl 1 (by decide) (hts (.fieldLink RM 26 "PacketStoreModel" "room" "I") (by decide +kernel)) (fun _ h9 => h9) rfl hin rfl (by decide +kernel) rfl rfl (Nat.le_of_ble_eq_true rfl) dM_init_75 (fun H locs hP hD hS => ?_)
      have hP : va_P (dC, dI) vwCl [(mM, .inr (2, [.int 0, .int (nI (md_room room)), .ref mX, .int 0, .ref mO, .int 0, .int 0, .ref mT, .ref mS, .ref mB, .int 0, .int 0, .int 0, .int 0, .int 0, .int 0, .int 0, .int 0])), (mX, .inl (eX, 512, .inl (fun _ => 0))), (mO, .inl (eO, 512, .inl (fun _ => 0))), (mT, .inl (eT, 16384, .inl (fun _ => 0))), (mS, .inl (eS, 16384, .inl (fun _ => 0))), (mB, .inl (eB, 16384, .inl (fun _ => 0)))] H := hP
      have hD : va_D A [(mM, .inr (2, [.int 0, .int (nI (md_room room)), .ref mX, .int 0, .ref mO, .int 0, .int 0, .ref mT, .ref mS, .ref mB, .int 0, .int 0, .int 0, .int 0, .int 0, .int 0, .int 0, .int 0])), (mX, .inl (eX, 512, .inl (fun _ => 0))), (mO, .inl (eO, 512, .inl (fun _ => 0))), (mT, .inl (eT, 16384, .inl (fun _ => 0))), (mS, .inl (eS, 16384, .inl (fun _ => 0))), (mB, .inl (eB, 16384, .inl (fun _ => 0)))] := hD
      exact W.vret hx hb hr (fun t ht hW => ⟨⟨(), rfl, trivial, mX, mO, mT, mS, mB, eX, eO, eT, eS, eB, by rw [ht]; exact hP, va_K.moved hW.alike hK, hD⟩, hS.F ht⟩) hS.2.2 dM_init_78
    · refine lv_sipush (v := nI 16384) hx hb dM_init_68 (by decide) ?_
      refine lv_goto (tgt := 75) hx hb dM_init_71 (by decide) ?_
      refine zz_as (nI (md_room room)) (congrArg nI (by unfold md_room; rw [if_neg (Int32.not_lt.mpr c53), if_pos (Int32.not_le.mp c65)])) ?_
      refine va_putF (D := (dC, dI)) (ci := 2) (v := .int (nI (md_room room))) (ty := .int) (C := RM) (T := TM) (N := 18) hx hb hts hi_M tyM tyM_ok nmM hown hK hP hD hS 0 rfl rfl 1 (by decide) (hts (.fieldLink RM 26 "PacketStoreModel" "room" "I") (by decide +kernel)) (fun _ h9 => h9) rfl hin rfl (by decide +kernel) rfl rfl (Nat.le_of_ble_eq_true rfl) dM_init_75 (fun H locs hP hD hS => ?_)
      have hP : va_P (dC, dI) vwCl [(mM, .inr (2, [.int 0, .int (nI (md_room room)), .ref mX, .int 0, .ref mO, .int 0, .int 0, .ref mT, .ref mS, .ref mB, .int 0, .int 0, .int 0, .int 0, .int 0, .int 0, .int 0, .int 0])), (mX, .inl (eX, 512, .inl (fun _ => 0))), (mO, .inl (eO, 512, .inl (fun _ => 0))), (mT, .inl (eT, 16384, .inl (fun _ => 0))), (mS, .inl (eS, 16384, .inl (fun _ => 0))), (mB, .inl (eB, 16384, .inl (fun _ => 0)))] H := hP
      have hD : va_D A [(mM, .inr (2, [.int 0, .int (nI (md_room room)), .ref mX, .int 0, .ref mO, .int 0, .int 0, .ref mT, .ref mS, .ref mB, .int 0, .int 0, .int 0, .int 0, .int 0, .int 0, .int 0, .int 0])), (mX, .inl (eX, 512, .inl (fun _ => 0))), (mO, .inl (eO, 512, .inl (fun _ => 0))), (mT, .inl (eT, 16384, .inl (fun _ => 0))), (mS, .inl (eS, 16384, .inl (fun _ => 0))), (mB, .inl (eB, 16384, .inl (fun _ => 0)))] := hD
      exact W.vret hx hb hr (fun t ht hW => ⟨⟨(), rfl, trivial, mX, mO, mT, mS, mB, eX, eO, eT, eS, eB, by rw [ht]; exact hP, va_K.moved hW.alike hK, hD⟩, hS.F ht⟩) hS.2.2 dM_init_78
  · refine lv_bipush (v := nI 64) hx hb dM_init_56 (by decide) ?_
    refine lv_goto (tgt := 75) hx hb dM_init_58 (by decide) ?_
    refine zz_as (nI (md_room room)) (congrArg nI (by unfold md_room; rw [if_pos (Int32.not_le.mp c53)])) ?_
    refine va_putF (D := (dC, dI)) (ci := 2) (v := .int (nI (md_room room))) (ty := .int) (C := RM) (T := TM) (N := 18) hx hb hts hi_M tyM tyM_ok nmM hown hK hP hD hS 0 rfl rfl 1 (by decide) (hts (.fieldLink RM 26 "PacketStoreModel" "room" "I") (by decide +kernel)) (fun _ h9 => h9) rfl hin rfl (by decide +kernel) rfl rfl (Nat.le_of_ble_eq_true rfl) dM_init_75 (fun H locs hP hD hS => ?_)
    have hP : va_P (dC, dI) vwCl [(mM, .inr (2, [.int 0, .int (nI (md_room room)), .ref mX, .int 0, .ref mO, .int 0, .int 0, .ref mT, .ref mS, .ref mB, .int 0, .int 0, .int 0, .int 0, .int 0, .int 0, .int 0, .int 0])), (mX, .inl (eX, 512, .inl (fun _ => 0))), (mO, .inl (eO, 512, .inl (fun _ => 0))), (mT, .inl (eT, 16384, .inl (fun _ => 0))), (mS, .inl (eS, 16384, .inl (fun _ => 0))), (mB, .inl (eB, 16384, .inl (fun _ => 0)))] H := hP
    have hD : va_D A [(mM, .inr (2, [.int 0, .int (nI (md_room room)), .ref mX, .int 0, .ref mO, .int 0, .int 0, .ref mT, .ref mS, .ref mB, .int 0, .int 0, .int 0, .int 0, .int 0, .int 0, .int 0, .int 0])), (mX, .inl (eX, 512, .inl (fun _ => 0))), (mO, .inl (eO, 512, .inl (fun _ => 0))), (mT, .inl (eT, 16384, .inl (fun _ => 0))), (mS, .inl (eS, 16384, .inl (fun _ => 0))), (mB, .inl (eB, 16384, .inl (fun _ => 0)))] := hD
    exact W.vret hx hb hr (fun t ht hW => ⟨⟨(), rfl, trivial, mX, mO, mT, mS, mB, eX, eO, eT, eS, eB, by rw [ht]; exact hP, va_K.moved hW.alike hK, hD⟩, hS.F ht⟩) hS.2.2 dM_init_78
