set_option maxHeartbeats 4000000 in
set_option maxRecDepth 100000 in
/-- PacketStore.dropOldest() -/
theorem c_P_dropOldest (l : Launch) (dC : Nat → ClassId) (dI : Nat → Nat → Nat) (aP aR aB aS aT aX aO R lo hi : Nat) (off : Nat → Nat) (ts os uw : Nat) (fr to : Int32) (pa co dr de : Nat) (cS : ClassId) (Sf : Nat → Int32) (hok : rg_ok R lo hi off) (hst : ∀ i, lo ≤ i → i < hi → Sf (i % R) = nI (off i % R)) (hlt : lo < hi) (hpa : pa - lo < 2 ^ 31) (hz : Nat) : Met l yX1_dropOldest wsX1_dropOldest ({ frames := 4, cells := 0, slots := 0, locals := 85 }) (va_Pc [.ref aP] (fun U => U.heap.size = hz ∧ va_P (dC, dI) vwCl [(aP, .inr (1, [.ref aR, .ref aX, .int (nI ts), .ref aO, .int (nI os), .int (nI uw), .int fr, .int to, .int (nI (pa - lo)), .int (nI co), .int (nI dr), .int (nI de)])), (aR, .inr (0, [.int (nI R), .ref aB, .ref aS, .ref aT, .int (nI (lo % R)), .int (nI (hi - lo)), .int (nI (off hi % R)), .int (nI (off hi - off lo))])), (aS, .inl (cS, R, .inl Sf))] U.heap ∧ va_K (dC, dI) vwCl [(cS, .int)] U ∧ va_D (fun _ => True) [(aP, .inr (1, [.ref aR, .ref aX, .int (nI ts), .ref aO, .int (nI os), .int (nI uw), .int fr, .int to, .int (nI (pa - lo)), .int (nI co), .int (nI dr), .int (nI de)])), (aR, .inr (0, [.int (nI R), .ref aB, .ref aS, .ref aT, .int (nI (lo % R)), .int (nI (hi - lo)), .int (nI (off hi % R)), .int (nI (off hi - off lo))])), (aS, .inl (cS, R, .inl Sf))])) (va_Qv (fun (u : Unit) => True) (fun u t => va_P (dC, dI) vwCl [(aP, .inr (1, [.ref aR, .ref aX, .int (nI ts), .ref aO, .int (nI os), .int (nI uw), .int fr, .int to, .int (nI (pa - (lo + 1))), .int (nI co), .int (nI dr), .int (nI de)])), (aR, .inr (0, [.int (nI R), .ref aB, .ref aS, .ref aT, .int (nI ((lo + 1) % R)), .int (nI (hi - (lo + 1))), .int (nI (off hi % R)), .int (nI (off hi - off (lo + 1)))])), (aS, .inl (cS, R, .inl Sf))] t.heap ∧ va_K (dC, dI) vwCl [(cS, .int)] t ∧ va_D (va_A [(aP, .inr (1, [.ref aR, .ref aX, .int (nI ts), .ref aO, .int (nI os), .int (nI uw), .int fr, .int to, .int (nI (pa - lo)), .int (nI co), .int (nI dr), .int (nI de)])), (aR, .inr (0, [.int (nI R), .ref aB, .ref aS, .ref aT, .int (nI (lo % R)), .int (nI (hi - lo)), .int (nI (off hi % R)), .int (nI (off hi - off lo))])), (aS, .inl (cS, R, .inl Sf))] hz) [(aP, .inr (1, [.ref aR, .ref aX, .int (nI ts), .ref aO, .int (nI os), .int (nI uw), .int fr, .int to, .int (nI (pa - (lo + 1))), .int (nI co), .int (nI dr), .int (nI de)])), (aR, .inr (0, [.int (nI R), .ref aB, .ref aS, .ref aT, .int (nI ((lo + 1) % R)), .int (nI (hi - (lo + 1))), .int (nI (off hi % R)), .int (nI (off hi - off (lo + 1)))])), (aS, .inl (cS, R, .inl Sf))]) (va_A [(aP, .inr (1, [.ref aR, .ref aX, .int (nI ts), .ref aO, .int (nI os), .int (nI uw), .int fr, .int to, .int (nI (pa - lo)), .int (nI co), .int (nI dr), .int (nI de)])), (aR, .inr (0, [.int (nI R), .ref aB, .ref aS, .ref aT, .int (nI (lo % R)), .int (nI (hi - lo)), .int (nI (off hi % R)), .int (nI (off hi - off lo))])), (aS, .inl (cS, R, .inl Sf))] hz)) 0 0 (va_A [(aP, .inr (1, [.ref aR, .ref aX, .int (nI ts), .ref aO, .int (nI os), .int (nI uw), .int fr, .int to, .int (nI (pa - lo)), .int (nI co), .int (nI dr), .int (nI de)])), (aR, .inr (0, [.int (nI R), .ref aB, .ref aS, .ref aT, .int (nI (lo % R)), .int (nI (hi - lo)), .int (nI (off hi % R)), .int (nI (off hi - off lo))])), (aS, .inl (cS, R, .inl Sf))] hz) := by
  refine Met.ofW (cc := cX1_dropOldest) (maxL := 1) (ret := none) (by decide) rfl ?_
  intro p e s m args below meth c s₁ B hml hv
  obtain ⟨rfl, hsz, hP, hK, hD0⟩ := hv
  have hx := B.exec
  have hb := B.bytes
  have hr := B.returns
  have hts := atoms_spec (ws := wsX1_dropOldest) B.pre
  have hown : s.vm.findClass RX1 = some m.cls := findClass_of_methodNamed B.named
  have hlocks := B.notSynchronized
  have hi_P : ∀ w ∈ u_ws RX1 TX1 12, w ∈ wsX1_dropOldest := by decide +kernel
  subst hsz
  have hD := hD0.self (sz := s.heap.size)
  generalize hAe : va_A [(aP, .inr (1, [.ref aR, .ref aX, .int (nI ts), .ref aO, .int (nI os), .int (nI uw), .int fr, .int to, .int (nI (pa - lo)), .int (nI co), .int (nI dr), .int (nI de)])), (aR, .inr (0, [.int (nI R), .ref aB, .ref aS, .ref aT, .int (nI (lo % R)), .int (nI (hi - lo)), .int (nI (off hi % R)), .int (nI (off hi - off lo))])), (aS, .inl (cS, R, .inl Sf))] s.heap.size = A at hD ⊢
  have hA : ∀ q : Nat, s.heap.size ≤ q → A q := fun q h => by rw [← hAe]; exact Or.inr h
  have hS : va_S A s.heap s.heap [] := va_S.rf
  have hP : va_P (dC, dI) vwCl [(aP, .inr (1, [.ref aR, .ref aX, .int (nI ts), .ref aO, .int (nI os), .int (nI uw), .int fr, .int to, .int (nI (pa - lo)), .int (nI co), .int (nI dr), .int (nI de)])), (aR, .inr (0, [.int (nI R), .ref aB, .ref aS, .ref aT, .int (nI (lo % R)), .int (nI (hi - lo)), .int (nI (off hi % R)), .int (nI (off hi - off lo))])), (aS, .inl (cS, R, .inl Sf))] s.heap := hP
  have hl := lv_entry ([.ref aP]) (n := 1) (Nat.le_of_ble_eq_true rfl)
  rw [lg_entry_eq]
  generalize (lg_sl ([.ref aP]) ++ List.replicate (1 - (lg_sl ([.ref aP])).length) Slot.unset).toArray = ls at hl ⊢
  have hl : lv_has ls 1 [(0, .ref aP)] := hl
  have hRR := hok.1
  have hll := hok.2.1
  have hcap := hok.2.2.1
  have hgap := hok.gap (Nat.le_refl lo) hll (Nat.le_refl hi)
  refine lv_aload_n hx hb dX1_dropOldest_0 rfl (lv_at hl 0 rfl) ?_
  refine va_get (D := (dC, dI)) (ci := 1) (v := .ref aR) (C := RX1) (T := TX1) (N := 12) hx hb hts hi_P hown hK hP 0 rfl rfl 0 (by decide) (hts (.fieldLink RX1 23 "PacketStore" "ring" "LPacketStore$Ring;") (by decide +kernel)) (fun _ h9 => h9) rfl dX1_dropOldest_1 ?_
  refine zz_callMv (As := []) (rest := []) (wr := [(aP, .inr (1, [.ref aR, .ref aX, .int (nI ts), .ref aO, .int (nI os), .int (nI uw), .int fr, .int to, .int (nI (pa - lo)), .int (nI co), .int (nI dr), .int (nI de)]))]) ⟨hx, hb, hml, hown, hts⟩ (c_R_dropOldest l dC dI aR aB aS aT R lo hi off cS Sf hok hst hlt _) (cwV 0 hts gX1_dropOldest_X0_dropOldest rfl rfl rfl (by decide +kernel) ⟨Nat.le_of_ble_eq_true rfl, Nat.le_of_ble_eq_true rfl⟩) hP hD hK hS hA [1, 2] [0] [0] rfl rfl rfl (by decide) (by decide) (by decide) rfl 0 rfl rfl rfl rfl hl.1 rfl (Nat.le_of_ble_eq_true rfl) dX1_dropOldest_4 ⟨Nat.zero_le _, Nat.zero_le _⟩ (fun u4 H locs e4 hP hD hS => ?_)
  have hP : va_P (dC, dI) vwCl [(aP, .inr (1, [.ref aR, .ref aX, .int (nI ts), .ref aO, .int (nI os), .int (nI uw), .int fr, .int to, .int (nI (pa - lo)), .int (nI co), .int (nI dr), .int (nI de)])), (aR, .inr (0, [.int (nI R), .ref aB, .ref aS, .ref aT, .int (nI ((lo + 1) % R)), .int (nI (hi - (lo + 1))), .int (nI (off hi % R)), .int (nI (off hi - off (lo + 1)))])), (aS, .inl (cS, R, .inl Sf))] H := hP
  have hD : va_D A [(aP, .inr (1, [.ref aR, .ref aX, .int (nI ts), .ref aO, .int (nI os), .int (nI uw), .int fr, .int to, .int (nI (pa - lo)), .int (nI co), .int (nI dr), .int (nI de)])), (aR, .inr (0, [.int (nI R), .ref aB, .ref aS, .ref aT, .int (nI ((lo + 1) % R)), .int (nI (hi - (lo + 1))), .int (nI (off hi % R)), .int (nI (off hi - off (lo + 1)))])), (aS, .inl (cS, R, .inl Sf))] := hD
  refine lv_aload_n hx hb dX1_dropOldest_7 rfl (lv_at hl 0 rfl) ?_
  refine va_get (D := (dC, dI)) (ci := 1) (v := .int (nI (pa - lo))) (C := RX1) (T := TX1) (N := 12) hx hb hts hi_P hown hK hP 0 rfl rfl 8 (by decide) (hts (.fieldLink RX1 78 "PacketStore" "passed" "I") (by decide +kernel)) (fun _ h9 => h9) rfl dX1_dropOldest_8 ?_
  refine zz_if_le (a := pa - lo) (tgt := 24) hx hb dX1_dropOldest_11 (by decide) hpa (fun c11 => ?_) (fun c11 => ?_)
  · have e11 : pa - lo = pa - (lo + 1) := by omega
    rw [e11] at hP hD
    have hP : va_P (dC, dI) vwCl [(aP, .inr (1, [.ref aR, .ref aX, .int (nI ts), .ref aO, .int (nI os), .int (nI uw), .int fr, .int to, .int (nI (pa - (lo + 1))), .int (nI co), .int (nI dr), .int (nI de)])), (aR, .inr (0, [.int (nI R), .ref aB, .ref aS, .ref aT, .int (nI ((lo + 1) % R)), .int (nI (hi - (lo + 1))), .int (nI (off hi % R)), .int (nI (off hi - off (lo + 1)))])), (aS, .inl (cS, R, .inl Sf))] H := hP
    have hD : va_D A [(aP, .inr (1, [.ref aR, .ref aX, .int (nI ts), .ref aO, .int (nI os), .int (nI uw), .int fr, .int to, .int (nI (pa - (lo + 1))), .int (nI co), .int (nI dr), .int (nI de)])), (aR, .inr (0, [.int (nI R), .ref aB, .ref aS, .ref aT, .int (nI ((lo + 1) % R)), .int (nI (hi - (lo + 1))), .int (nI (off hi % R)), .int (nI (off hi - off (lo + 1)))])), (aS, .inl (cS, R, .inl Sf))] := hD
    exact W.vret hx hb hr (fun t ht hW => ⟨⟨(), rfl, trivial, by rw [ht]; exact hP, va_K.moved hW.alike hK, hD⟩, hS.F ht⟩) hS.2.2 dX1_dropOldest_24
  · refine lv_aload_n hx hb dX1_dropOldest_14 rfl (lv_at hl 0 rfl) ?_
    refine lv_dup hx hb dX1_dropOldest_15 rfl ?_
    refine va_get (D := (dC, dI)) (ci := 1) (v := .int (nI (pa - lo))) (C := RX1) (T := TX1) (N := 12) hx hb hts hi_P hown hK hP 0 rfl rfl 8 (by decide) (hts (.fieldLink RX1 78 "PacketStore" "passed" "I") (by decide +kernel)) (fun _ h9 => h9) rfl dX1_dropOldest_16 ?_
    refine lv_iconst (v := nI 1) hx hb dX1_dropOldest_19 (by decide) ?_
    refine lv_isub hx hb dX1_dropOldest_20 ?_
    refine zz_as (nI ((pa - lo) - 1)) (pk_sub (by omega)) ?_
    refine zz_as (nI (pa - (lo + 1))) (congrArg nI (by omega)) ?_
    refine va_put (D := (dC, dI)) (ci := 1) (v := .int (nI (pa - (lo + 1)))) (ty := .int) (C := RX1) (T := TX1) (N := 12) hx hb hts hi_P tyX1 tyX1_ok nmX1 hown hK hP hD hS 0 rfl rfl 8 (by decide) (hts (.fieldLink RX1 78 "PacketStore" "passed" "I") (by decide +kernel)) (fun _ h9 => h9) rfl (by decide +kernel) rfl rfl (Nat.le_of_ble_eq_true rfl) dX1_dropOldest_21 (fun H locs hP hD hS => ?_)
    have hP : va_P (dC, dI) vwCl [(aP, .inr (1, [.ref aR, .ref aX, .int (nI ts), .ref aO, .int (nI os), .int (nI uw), .int fr, .int to, .int (nI (pa - (lo + 1))), .int (nI co), .int (nI dr), .int (nI de)])), (aR, .inr (0, [.int (nI R), .ref aB, .ref aS, .ref aT, .int (nI ((lo + 1) % R)), .int (nI (hi - (lo + 1))), .int (nI (off hi % R)), .int (nI (off hi - off (lo + 1)))])), (aS, .inl (cS, R, .inl Sf))] H := hP
    have hD : va_D A [(aP, .inr (1, [.ref aR, .ref aX, .int (nI ts), .ref aO, .int (nI os), .int (nI uw), .int fr, .int to, .int (nI (pa - (lo + 1))), .int (nI co), .int (nI dr), .int (nI de)])), (aR, .inr (0, [.int (nI R), .ref aB, .ref aS, .ref aT, .int (nI ((lo + 1) % R)), .int (nI (hi - (lo + 1))), .int (nI (off hi % R)), .int (nI (off hi - off (lo + 1)))])), (aS, .inl (cS, R, .inl Sf))] := hD
    exact W.vret hx hb hr (fun t ht hW => ⟨⟨(), rfl, trivial, by rw [ht]; exact hP, va_K.moved hW.alike hK, hD⟩, hS.F ht⟩) hS.2.2 dX1_dropOldest_24
set_option maxHeartbeats 4000000 in
set_option maxRecDepth 100000 in
/-- PacketStore.makeRoom(size) -/
theorem c_P_makeRoom (l : Launch) (dC : Nat → ClassId) (dI : Nat → Nat → Nat) (aP aR aB aS aT aX aO R lo hi : Nat) (off : Nat → Nat) (ts os uw : Nat) (fr to : Int32) (pa co dr de : Nat) (cS : ClassId) (Sf : Nat → Int32) (sz : Nat) (hok : rg_ok R lo hi off) (hst : ∀ i, lo ≤ i → i < hi → Sf (i % R) = nI (off i % R)) (hpa : pa ≤ hi) (hsR : sz ≤ R) (hz : Nat) : Met l yX1_makeRoom wsX1_makeRoom ({ frames := 5, cells := 0, slots := 0, locals := 105 }) (va_Pc [.ref aP, .int (nI sz)] (fun U => U.heap.size = hz ∧ va_P (dC, dI) vwCl [(aP, .inr (1, [.ref aR, .ref aX, .int (nI ts), .ref aO, .int (nI os), .int (nI uw), .int fr, .int to, .int (nI (pa - lo)), .int (nI co), .int (nI dr), .int (nI de)])), (aR, .inr (0, [.int (nI R), .ref aB, .ref aS, .ref aT, .int (nI (lo % R)), .int (nI (hi - lo)), .int (nI (off hi % R)), .int (nI (off hi - off lo))])), (aS, .inl (cS, R, .inl Sf))] U.heap ∧ va_K (dC, dI) vwCl [(cS, .int)] U ∧ va_D (fun _ => True) [(aP, .inr (1, [.ref aR, .ref aX, .int (nI ts), .ref aO, .int (nI os), .int (nI uw), .int fr, .int to, .int (nI (pa - lo)), .int (nI co), .int (nI dr), .int (nI de)])), (aR, .inr (0, [.int (nI R), .ref aB, .ref aS, .ref aT, .int (nI (lo % R)), .int (nI (hi - lo)), .int (nI (off hi % R)), .int (nI (off hi - off lo))])), (aS, .inl (cS, R, .inl Sf))])) (va_Qi (fun (r : Int32) (u : Nat) => r = nI (u - lo) ∧ lo ≤ u ∧ u ≤ hi ∧ off hi - off u + sz ≤ R ∧ ∀ k, lo ≤ k → k < u → R < off hi - off k + sz) (fun u t => va_P (dC, dI) vwCl [(aP, .inr (1, [.ref aR, .ref aX, .int (nI ts), .ref aO, .int (nI os), .int (nI uw), .int fr, .int to, .int (nI (pa - u)), .int (nI co), .int (nI dr), .int (nI de)])), (aR, .inr (0, [.int (nI R), .ref aB, .ref aS, .ref aT, .int (nI (u % R)), .int (nI (hi - u)), .int (nI (off hi % R)), .int (nI (off hi - off u))])), (aS, .inl (cS, R, .inl Sf))] t.heap ∧ va_K (dC, dI) vwCl [(cS, .int)] t ∧ va_D (va_A [(aP, .inr (1, [.ref aR, .ref aX, .int (nI ts), .ref aO, .int (nI os), .int (nI uw), .int fr, .int to, .int (nI (pa - lo)), .int (nI co), .int (nI dr), .int (nI de)])), (aR, .inr (0, [.int (nI R), .ref aB, .ref aS, .ref aT, .int (nI (lo % R)), .int (nI (hi - lo)), .int (nI (off hi % R)), .int (nI (off hi - off lo))])), (aS, .inl (cS, R, .inl Sf))] hz) [(aP, .inr (1, [.ref aR, .ref aX, .int (nI ts), .ref aO, .int (nI os), .int (nI uw), .int fr, .int to, .int (nI (pa - u)), .int (nI co), .int (nI dr), .int (nI de)])), (aR, .inr (0, [.int (nI R), .ref aB, .ref aS, .ref aT, .int (nI (u % R)), .int (nI (hi - u)), .int (nI (off hi % R)), .int (nI (off hi - off u))])), (aS, .inl (cS, R, .inl Sf))]) (va_A [(aP, .inr (1, [.ref aR, .ref aX, .int (nI ts), .ref aO, .int (nI os), .int (nI uw), .int fr, .int to, .int (nI (pa - lo)), .int (nI co), .int (nI dr), .int (nI de)])), (aR, .inr (0, [.int (nI R), .ref aB, .ref aS, .ref aT, .int (nI (lo % R)), .int (nI (hi - lo)), .int (nI (off hi % R)), .int (nI (off hi - off lo))])), (aS, .inl (cS, R, .inl Sf))] hz)) 0 0 (va_A [(aP, .inr (1, [.ref aR, .ref aX, .int (nI ts), .ref aO, .int (nI os), .int (nI uw), .int fr, .int to, .int (nI (pa - lo)), .int (nI co), .int (nI dr), .int (nI de)])), (aR, .inr (0, [.int (nI R), .ref aB, .ref aS, .ref aT, .int (nI (lo % R)), .int (nI (hi - lo)), .int (nI (off hi % R)), .int (nI (off hi - off lo))])), (aS, .inl (cS, R, .inl Sf))] hz) := by
  refine Met.ofW (cc := cX1_makeRoom) (maxL := 4) (ret := (some .int)) (by decide) rfl ?_
  intro p e s m args below meth c s₁ B hml hv
  obtain ⟨rfl, hsz, hP, hK, hD0⟩ := hv
  have hx := B.exec
  have hb := B.bytes
  have hr := B.returns
  have hts := atoms_spec (ws := wsX1_makeRoom) B.pre
  have hown : s.vm.findClass RX1 = some m.cls := findClass_of_methodNamed B.named
  have hlocks := B.notSynchronized
  have hi_P : ∀ w ∈ u_ws RX1 TX1 12, w ∈ wsX1_makeRoom := by decide +kernel
  subst hsz
  have hD := hD0.self (sz := s.heap.size)
  generalize hAe : va_A [(aP, .inr (1, [.ref aR, .ref aX, .int (nI ts), .ref aO, .int (nI os), .int (nI uw), .int fr, .int to, .int (nI (pa - lo)), .int (nI co), .int (nI dr), .int (nI de)])), (aR, .inr (0, [.int (nI R), .ref aB, .ref aS, .ref aT, .int (nI (lo % R)), .int (nI (hi - lo)), .int (nI (off hi % R)), .int (nI (off hi - off lo))])), (aS, .inl (cS, R, .inl Sf))] s.heap.size = A at hD ⊢
  have hA : ∀ q : Nat, s.heap.size ≤ q → A q := fun q h => by rw [← hAe]; exact Or.inr h
  have hS : va_S A s.heap s.heap [] := va_S.rf
  have hP : va_P (dC, dI) vwCl [(aP, .inr (1, [.ref aR, .ref aX, .int (nI ts), .ref aO, .int (nI os), .int (nI uw), .int fr, .int to, .int (nI (pa - lo)), .int (nI co), .int (nI dr), .int (nI de)])), (aR, .inr (0, [.int (nI R), .ref aB, .ref aS, .ref aT, .int (nI (lo % R)), .int (nI (hi - lo)), .int (nI (off hi % R)), .int (nI (off hi - off lo))])), (aS, .inl (cS, R, .inl Sf))] s.heap := hP
  have hl := lv_entry ([.ref aP, .int (nI sz)]) (n := 4) (Nat.le_of_ble_eq_true rfl)
  rw [lg_entry_eq]
  generalize (lg_sl ([.ref aP, .int (nI sz)]) ++ List.replicate (4 - (lg_sl ([.ref aP, .int (nI sz)])).length) Slot.unset).toArray = ls at hl ⊢
  have hl : lv_has ls 4 [(0, .ref aP), (1, .int (nI sz))] := hl
  have hRR := hok.1
  have hll := hok.2.1
  have hcap := hok.2.2.1
  have hgap := hok.gap (Nat.le_refl lo) hll (Nat.le_refl hi)
  refine lv_aload_n hx hb dX1_makeRoom_0 rfl (lv_at hl 0 rfl) ?_
  refine va_get (D := (dC, dI)) (ci := 1) (v := .ref aR) (C := RX1) (T := TX1) (N := 12) hx hb hts hi_P hown hK hP 0 rfl rfl 0 (by decide) (hts (.fieldLink RX1 23 "PacketStore" "ring" "LPacketStore$Ring;") (by decide +kernel)) (fun _ h9 => h9) rfl dX1_makeRoom_1 ?_
  refine zz_callR (As := []) (rest := []) ⟨hx, hb, hml, hown, hts⟩ (c_R_packets l dC dI aR aB aS aT R (lo % R) (hi - lo) (off hi % R) (off hi - off lo)) (cwV 0 hts gX1_makeRoom_X0_packets rfl rfl rfl (by decide +kernel) ⟨Nat.le_of_ble_eq_true rfl, Nat.le_of_ble_eq_true rfl⟩) (hP.sub [1] rfl) (hK.sub [] rfl) 0 rfl rfl rfl rfl hl.1 rfl (Nat.le_of_ble_eq_true rfl) dX1_makeRoom_4 ⟨Nat.zero_le _, Nat.zero_le _⟩ (fun r4 e4 => ?_)
  subst e4
  refine lv_istore_n (lv' := [(2, .int (nI (hi - lo))), (0, .ref aP), (1, .int (nI sz))]) hx hb dX1_makeRoom_7 rfl hl (by decide) rfl (fun ls hl => ?_)
  refine lv_iconst (v := nI 0) hx hb dX1_makeRoom_8 (by decide) ?_
  refine lv_istore_n (lv' := [(3, .int (nI 0)), (2, .int (nI (hi - lo))), (0, .ref aP), (1, .int (nI sz))]) hx hb dX1_makeRoom_9 rfl hl (by decide) rfl (fun ls hl => ?_)
  refine zz_loop (σ := Nat) (fun n v H locs ls => (n + v = hi - lo + 1 ∧ v ≤ hi - lo ∧ ∀ k, lo ≤ k → k < lo + v → R < off hi - off k + sz) ∧ va_P (dC, dI) vwCl [(aP, .inr (1, [.ref aR, .ref aX, .int (nI ts), .ref aO, .int (nI os), .int (nI uw), .int fr, .int to, .int (nI (pa - (lo + v))), .int (nI co), .int (nI dr), .int (nI de)])), (aR, .inr (0, [.int (nI R), .ref aB, .ref aS, .ref aT, .int (nI ((lo + v) % R)), .int (nI (hi - (lo + v))), .int (nI (off hi % R)), .int (nI (off hi - off (lo + v)))])), (aS, .inl (cS, R, .inl Sf))] H ∧ va_D A [(aP, .inr (1, [.ref aR, .ref aX, .int (nI ts), .ref aO, .int (nI os), .int (nI uw), .int fr, .int to, .int (nI (pa - (lo + v))), .int (nI co), .int (nI dr), .int (nI de)])), (aR, .inr (0, [.int (nI R), .ref aB, .ref aS, .ref aT, .int (nI ((lo + v) % R)), .int (nI (hi - (lo + v))), .int (nI (off hi % R)), .int (nI (off hi - off (lo + v)))])), (aS, .inl (cS, R, .inl Sf))] ∧ va_S A s.heap H locs ∧ lv_has ls 4 [(3, .int (nI v)), (0, .ref aP), (1, .int (nI sz)), (2, .int (nI (hi - lo)))]) (fun v H locs ls h => ?_) (fun n v H locs ls h ih => ?_) (hi - lo + 1) 0 _ _ _ ⟨⟨rfl, Nat.zero_le _, fun k h1 h2 => absurd h2 (Nat.not_lt.mpr h1)⟩, hP, hD, hS, lv_sub hl [0, 2, 3, 1] rfl⟩
  · obtain ⟨⟨h1, h2, -⟩, -⟩ := h
    omega
  obtain ⟨⟨hj1, hj2, hj3⟩, hP, hD, hS, hl⟩ := h
  have hok2 := hok.drop (Nat.le_add_right lo v) (show lo + v ≤ hi by omega)
  have hcap2 := hok2.2.2.1
  have hP : va_P (dC, dI) vwCl [(aP, .inr (1, [.ref aR, .ref aX, .int (nI ts), .ref aO, .int (nI os), .int (nI uw), .int fr, .int to, .int (nI (pa - (lo + v))), .int (nI co), .int (nI dr), .int (nI de)])), (aR, .inr (0, [.int (nI R), .ref aB, .ref aS, .ref aT, .int (nI ((lo + v) % R)), .int (nI (hi - (lo + v))), .int (nI (off hi % R)), .int (nI (off hi - off (lo + v)))])), (aS, .inl (cS, R, .inl Sf))] H := hP
  have hD : va_D A [(aP, .inr (1, [.ref aR, .ref aX, .int (nI ts), .ref aO, .int (nI os), .int (nI uw), .int fr, .int to, .int (nI (pa - (lo + v))), .int (nI co), .int (nI dr), .int (nI de)])), (aR, .inr (0, [.int (nI R), .ref aB, .ref aS, .ref aT, .int (nI ((lo + v) % R)), .int (nI (hi - (lo + v))), .int (nI (off hi % R)), .int (nI (off hi - off (lo + v)))])), (aS, .inl (cS, R, .inl Sf))] := hD
  have hl : lv_has ls 4 [(3, .int (nI v)), (0, .ref aP), (1, .int (nI sz)), (2, .int (nI (hi - lo)))] := hl
  refine lv_iload_n hx hb dX1_makeRoom_10 rfl (lv_at hl 0 rfl) ?_
  refine lv_iload_n hx hb dX1_makeRoom_11 rfl (lv_at hl 3 rfl) ?_
  refine zz_icmp_ge (a := v) (b := hi - lo) (tgt := 44) hx hb dX1_makeRoom_12 (by decide) (by omega) (by omega) (fun c12 => ?_) (fun c12 => ?_)
  · refine lv_iload_n hx hb dX1_makeRoom_44 rfl (lv_at hl 0 rfl) ?_
    exact W.iret (v := (nI v)) hx hb hr (fun t ht hW => ⟨⟨_, lo + v, rfl, ⟨congrArg nI (by omega), by omega, by omega, by rw [show lo + v = hi by omega]; omega, hj3⟩, by rw [ht]; exact hP, va_K.moved hW.alike hK, hD⟩, hS.F ht⟩) hS.2.2 dX1_makeRoom_45
  · refine lv_aload_n hx hb dX1_makeRoom_15 rfl (lv_at hl 1 rfl) ?_
    refine va_get (D := (dC, dI)) (ci := 1) (v := .ref aR) (C := RX1) (T := TX1) (N := 12) hx hb hts hi_P hown hK hP 0 rfl rfl 0 (by decide) (hts (.fieldLink RX1 23 "PacketStore" "ring" "LPacketStore$Ring;") (by decide +kernel)) (fun _ h9 => h9) rfl dX1_makeRoom_16 ?_
    refine zz_callR (As := []) (rest := []) ⟨hx, hb, hml, hown, hts⟩ (c_R_used l dC dI aR aB aS aT R ((lo + v) % R) (hi - (lo + v)) (off hi % R) (off hi - off (lo + v))) (cwV 0 hts gX1_makeRoom_X0_used rfl rfl rfl (by decide +kernel) ⟨Nat.le_of_ble_eq_true rfl, Nat.le_of_ble_eq_true rfl⟩) (hP.sub [1] rfl) (hK.sub [] rfl) 0 rfl rfl rfl rfl hl.1 rfl (Nat.le_of_ble_eq_true rfl) dX1_makeRoom_19 ⟨Nat.zero_le _, Nat.zero_le _⟩ (fun r19 e19 => ?_)
    subst e19
    refine lv_iload_n hx hb dX1_makeRoom_22 rfl (lv_at hl 2 rfl) ?_
    refine lv_iadd hx hb dX1_makeRoom_23 ?_
    refine zz_as (nI ((off hi - off (lo + v)) + sz)) (nI_add _ _) ?_
    refine lv_aload_n hx hb dX1_makeRoom_24 rfl (lv_at hl 1 rfl) ?_
    refine va_get (D := (dC, dI)) (ci := 1) (v := .ref aR) (C := RX1) (T := TX1) (N := 12) hx hb hts hi_P hown hK hP 0 rfl rfl 0 (by decide) (hts (.fieldLink RX1 23 "PacketStore" "ring" "LPacketStore$Ring;") (by decide +kernel)) (fun _ h9 => h9) rfl dX1_makeRoom_25 ?_
    refine zz_callR (As := []) (rest := [.int (nI ((off hi - off (lo + v)) + sz))]) ⟨hx, hb, hml, hown, hts⟩ (c_R_room l dC dI aR aB aS aT R ((lo + v) % R) (hi - (lo + v)) (off hi % R) (off hi - off (lo + v))) (cwV 0 hts gX1_makeRoom_X0_room rfl rfl rfl (by decide +kernel) ⟨Nat.le_of_ble_eq_true rfl, Nat.le_of_ble_eq_true rfl⟩) (hP.sub [1] rfl) (hK.sub [] rfl) 0 rfl rfl rfl rfl hl.1 rfl (Nat.le_of_ble_eq_true rfl) dX1_makeRoom_28 ⟨Nat.zero_le _, Nat.zero_le _⟩ (fun r28 e28 => ?_)
    subst e28
    refine zz_icmp_le (a := (off hi - off (lo + v)) + sz) (b := R) (tgt := 44) hx hb dX1_makeRoom_31 (by decide) (by omega) (by omega) (fun c31 => ?_) (fun c31 => ?_)
    · refine lv_iload_n hx hb dX1_makeRoom_44 rfl (lv_at hl 0 rfl) ?_
      exact W.iret (v := (nI v)) hx hb hr (fun t ht hW => ⟨⟨_, lo + v, rfl, ⟨congrArg nI (by omega), by omega, by omega, c31, hj3⟩, by rw [ht]; exact hP, va_K.moved hW.alike hK, hD⟩, hS.F ht⟩) hS.2.2 dX1_makeRoom_45
    · refine lv_aload_n hx hb dX1_makeRoom_34 rfl (lv_at hl 1 rfl) ?_
      refine zz_callMv (As := []) (rest := []) (wr := []) ⟨hx, hb, hml, hown, hts⟩ (c_P_dropOldest l dC dI aP aR aB aS aT aX aO R (lo + v) hi off ts os uw fr to pa co dr de cS Sf hok2 (fun i a b => hst i (by omega) b) (by omega) (by omega) _) (cwV 0 hts gX1_makeRoom_X1_dropOldest rfl rfl rfl (by decide +kernel) ⟨Nat.le_of_ble_eq_true rfl, Nat.le_of_ble_eq_true rfl⟩) hP hD hK hS hA [0, 1, 2] [] [0] rfl rfl rfl (by decide) (by decide) (by decide) rfl 0 rfl rfl rfl rfl hl.1 rfl (Nat.le_of_ble_eq_true rfl) dX1_makeRoom_35 ⟨Nat.zero_le _, Nat.zero_le _⟩ (fun u35 H locs e35 hP hD hS => ?_)
      have hP : va_P (dC, dI) vwCl [(aP, .inr (1, [.ref aR, .ref aX, .int (nI ts), .ref aO, .int (nI os), .int (nI uw), .int fr, .int to, .int (nI (pa - (lo + v + 1))), .int (nI co), .int (nI dr), .int (nI de)])), (aR, .inr (0, [.int (nI R), .ref aB, .ref aS, .ref aT, .int (nI ((lo + v + 1) % R)), .int (nI (hi - (lo + v + 1))), .int (nI (off hi % R)), .int (nI (off hi - off (lo + v + 1)))])), (aS, .inl (cS, R, .inl Sf))] H := hP
      have hD : va_D A [(aP, .inr (1, [.ref aR, .ref aX, .int (nI ts), .ref aO, .int (nI os), .int (nI uw), .int fr, .int to, .int (nI (pa - (lo + v + 1))), .int (nI co), .int (nI dr), .int (nI de)])), (aR, .inr (0, [.int (nI R), .ref aB, .ref aS, .ref aT, .int (nI ((lo + v + 1) % R)), .int (nI (hi - (lo + v + 1))), .int (nI (off hi % R)), .int (nI (off hi - off (lo + v + 1)))])), (aS, .inl (cS, R, .inl Sf))] := hD
      refine lv_iinc (v := nI (v + 1)) (lv' := [(3, .int (nI (v + 1))), (0, .ref aP), (1, .int (nI sz)), (2, .int (nI (hi - lo)))]) hx hb dX1_makeRoom_38 hl (k := 0) rfl (show nI v + 1 = nI (v + 1) from nI_1 _) (by decide) rfl (fun ls hl => ?_)
      refine lv_goto (tgt := 10) hx hb dX1_makeRoom_41 (by decide) ?_
      exact ih (v + 1) _ _ _ ⟨⟨by omega, by omega, fun k h1 h2 => (Nat.lt_or_ge k (lo + v)).elim (fun q => hj3 k h1 q) (fun q => by rw [show k = lo + v by omega]; exact c31)⟩, hP, hD, hS, lv_sub hl [0, 1, 2, 3] rfl⟩
theorem zz_nlt {x y : Int32} (h : x ≤ y) (h2 : y < x) : False := by
  rw [Int32.le_iff_toInt_le] at h
  rw [Int32.lt_iff_toInt_lt] at h2
  omega
theorem zz_lnt {x y : Int32} (h : ¬ y < x) : x ≤ y := by
  rw [Int32.le_iff_toInt_le]
  rw [Int32.lt_iff_toInt_lt] at h
  omega
set_option maxHeartbeats 4000000 in
set_option maxRecDepth 100000 in
/-- PacketStore.isWanted(time) -/
theorem c_P_isWanted (l : Launch) (dC : Nat → ClassId) (dI : Nat → Nat → Nat) (aP aR aX aO ts os uw : Nat) (fr to : Int32) (pw co dr de : Nat) (tim : Int32)  : Met l yX1_isWanted wsX1_isWanted ({ frames := 0, cells := 0, slots := 0, locals := 0 }) (va_Pc [.ref aP, .int tim] (fun U => va_P (dC, dI) vwCl [(aP, .inr (1, [.ref aR, .ref aX, .int (nI ts), .ref aO, .int (nI os), .int (nI uw), .int fr, .int to, .int (nI pw), .int (nI co), .int (nI dr), .int (nI de)]))] U.heap ∧ va_K (dC, dI) vwCl [] U)) (vp_Si (fun r => (r = nI 0 ∧ ¬ (fr ≤ tim ∧ tim ≤ to)) ∨ (r = nI 1 ∧ (fr ≤ tim ∧ tim ≤ to)))) 0 0 (fun _ => False) := by
  refine Met.ofW (cc := cX1_isWanted) (maxL := 2) (ret := (some .boolean)) (by decide) rfl ?_
  intro p e s m args below meth c s₁ B hml hv
  obtain ⟨rfl, hP, hK⟩ := hv
  have hx := B.exec
  have hb := B.bytes
  have hr := B.returns
  have hts := atoms_spec (ws := wsX1_isWanted) B.pre
  have hown : s.vm.findClass RX1 = some m.cls := findClass_of_methodNamed B.named
  have hlocks := B.notSynchronized
  have hi_P : ∀ w ∈ u_ws RX1 TX1 12, w ∈ wsX1_isWanted := by decide +kernel
  have hP : va_P (dC, dI) vwCl [(aP, .inr (1, [.ref aR, .ref aX, .int (nI ts), .ref aO, .int (nI os), .int (nI uw), .int fr, .int to, .int (nI pw), .int (nI co), .int (nI dr), .int (nI de)]))] s.heap := hP
  have hl := lv_entry ([.ref aP, .int tim]) (n := 2) (Nat.le_of_ble_eq_true rfl)
  rw [lg_entry_eq]
  generalize (lg_sl ([.ref aP, .int tim]) ++ List.replicate (2 - (lg_sl ([.ref aP, .int tim])).length) Slot.unset).toArray = ls at hl ⊢
  have hl : lv_has ls 2 [(0, .ref aP), (1, .int tim)] := hl
  refine lv_aload_n hx hb dX1_isWanted_0 rfl (lv_at hl 0 rfl) ?_
  refine va_get (D := (dC, dI)) (ci := 1) (v := .int fr) (C := RX1) (T := TX1) (N := 12) hx hb hts hi_P hown hK hP 0 rfl rfl 6 (by decide) (hts (.fieldLink RX1 72 "PacketStore" "from" "I") (by decide +kernel)) (fun _ h9 => h9) rfl dX1_isWanted_1 ?_
  refine lv_iload_n hx hb dX1_isWanted_4 rfl (lv_at hl 1 rfl) ?_
  refine lv_icmp_gt (tgt := 20) hx hb dX1_isWanted_5 (by decide) (fun c5 => ?_) (fun c5 => ?_)
  · refine lv_iconst (v := nI 0) hx hb dX1_isWanted_20 (by decide) ?_
    exact W.zret (v := (nI 0)) hx hb hr rfl (fun t ht hW => ⟨_, rfl, Or.inl ⟨rfl, fun h => zz_nlt h.1 c5⟩, ht⟩) (fun q hq => by cases hq) dX1_isWanted_21
  · refine lv_iload_n hx hb dX1_isWanted_8 rfl (lv_at hl 1 rfl) ?_
    refine lv_aload_n hx hb dX1_isWanted_9 rfl (lv_at hl 0 rfl) ?_
    refine va_get (D := (dC, dI)) (ci := 1) (v := .int to) (C := RX1) (T := TX1) (N := 12) hx hb hts hi_P hown hK hP 0 rfl rfl 7 (by decide) (hts (.fieldLink RX1 75 "PacketStore" "to" "I") (by decide +kernel)) (fun _ h9 => h9) rfl dX1_isWanted_10 ?_
    refine lv_icmp_gt (tgt := 20) hx hb dX1_isWanted_13 (by decide) (fun c13 => ?_) (fun c13 => ?_)
    · refine lv_iconst (v := nI 0) hx hb dX1_isWanted_20 (by decide) ?_
      exact W.zret (v := (nI 0)) hx hb hr rfl (fun t ht hW => ⟨_, rfl, Or.inl ⟨rfl, fun h => zz_nlt h.2 c13⟩, ht⟩) (fun q hq => by cases hq) dX1_isWanted_21
    · refine lv_iconst (v := nI 1) hx hb dX1_isWanted_16 (by decide) ?_
      refine lv_goto (tgt := 21) hx hb dX1_isWanted_17 (by decide) ?_
      exact W.zret (v := (nI 1)) hx hb hr rfl (fun t ht hW => ⟨_, rfl, Or.inr ⟨rfl, zz_lnt c5, zz_lnt c13⟩, ht⟩) (fun q hq => by cases hq) dX1_isWanted_21
set_option maxHeartbeats 4000000 in
set_option maxRecDepth 100000 in
/-- PacketStore.passUnwanted() -/
theorem c_P_passUnwanted (l : Launch) (dC : Nat → ClassId) (dI : Nat → Nat → Nat) (aP aR aB aS aT aX aO R lo hi : Nat) (off : Nat → Nat) (ts os uw : Nat) (fr to : Int32) (pa co dr de : Nat) (cT : ClassId) (Tf tm : Nat → Int32) (hok : rg_ok R lo hi off) (htm : ∀ i, lo ≤ i → i < hi → Tf (i % R) = tm i) (hpa : pa ≤ hi) (hz : Nat) : Met l yX1_passUnwanted wsX1_passUnwanted ({ frames := 2, cells := 0, slots := 0, locals := 42 }) (va_Pc [.ref aP] (fun U => U.heap.size = hz ∧ va_P (dC, dI) vwCl [(aP, .inr (1, [.ref aR, .ref aX, .int (nI ts), .ref aO, .int (nI os), .int (nI uw), .int fr, .int to, .int (nI (pa - lo)), .int (nI co), .int (nI dr), .int (nI de)])), (aR, .inr (0, [.int (nI R), .ref aB, .ref aS, .ref aT, .int (nI (lo % R)), .int (nI (hi - lo)), .int (nI (off hi % R)), .int (nI (off hi - off lo))])), (aT, .inl (cT, R, .inl Tf))] U.heap ∧ va_K (dC, dI) vwCl [(cT, .int)] U ∧ va_D (fun _ => True) [(aP, .inr (1, [.ref aR, .ref aX, .int (nI ts), .ref aO, .int (nI os), .int (nI uw), .int fr, .int to, .int (nI (pa - lo)), .int (nI co), .int (nI dr), .int (nI de)])), (aR, .inr (0, [.int (nI R), .ref aB, .ref aS, .ref aT, .int (nI (lo % R)), .int (nI (hi - lo)), .int (nI (off hi % R)), .int (nI (off hi - off lo))])), (aT, .inl (cT, R, .inl Tf))])) (va_Qv (fun (u : Nat) => pa - lo ≤ u ∧ u ≤ hi - lo ∧ (∀ t, pa - lo ≤ t → t < u → ¬ (fr ≤ tm (lo + t) ∧ tm (lo + t) ≤ to)) ∧ (u = hi - lo ∨ (u < hi - lo ∧ (fr ≤ tm (lo + u) ∧ tm (lo + u) ≤ to)))) (fun u t => va_P (dC, dI) vwCl [(aP, .inr (1, [.ref aR, .ref aX, .int (nI ts), .ref aO, .int (nI os), .int (nI uw), .int fr, .int to, .int (nI u), .int (nI co), .int (nI dr), .int (nI de)])), (aR, .inr (0, [.int (nI R), .ref aB, .ref aS, .ref aT, .int (nI (lo % R)), .int (nI (hi - lo)), .int (nI (off hi % R)), .int (nI (off hi - off lo))])), (aT, .inl (cT, R, .inl Tf))] t.heap ∧ va_K (dC, dI) vwCl [(cT, .int)] t ∧ va_D (va_A [(aP, .inr (1, [.ref aR, .ref aX, .int (nI ts), .ref aO, .int (nI os), .int (nI uw), .int fr, .int to, .int (nI (pa - lo)), .int (nI co), .int (nI dr), .int (nI de)])), (aR, .inr (0, [.int (nI R), .ref aB, .ref aS, .ref aT, .int (nI (lo % R)), .int (nI (hi - lo)), .int (nI (off hi % R)), .int (nI (off hi - off lo))])), (aT, .inl (cT, R, .inl Tf))] hz) [(aP, .inr (1, [.ref aR, .ref aX, .int (nI ts), .ref aO, .int (nI os), .int (nI uw), .int fr, .int to, .int (nI u), .int (nI co), .int (nI dr), .int (nI de)])), (aR, .inr (0, [.int (nI R), .ref aB, .ref aS, .ref aT, .int (nI (lo % R)), .int (nI (hi - lo)), .int (nI (off hi % R)), .int (nI (off hi - off lo))])), (aT, .inl (cT, R, .inl Tf))]) (va_A [(aP, .inr (1, [.ref aR, .ref aX, .int (nI ts), .ref aO, .int (nI os), .int (nI uw), .int fr, .int to, .int (nI (pa - lo)), .int (nI co), .int (nI dr), .int (nI de)])), (aR, .inr (0, [.int (nI R), .ref aB, .ref aS, .ref aT, .int (nI (lo % R)), .int (nI (hi - lo)), .int (nI (off hi % R)), .int (nI (off hi - off lo))])), (aT, .inl (cT, R, .inl Tf))] hz)) 0 0 (va_A [(aP, .inr (1, [.ref aR, .ref aX, .int (nI ts), .ref aO, .int (nI os), .int (nI uw), .int fr, .int to, .int (nI (pa - lo)), .int (nI co), .int (nI dr), .int (nI de)])), (aR, .inr (0, [.int (nI R), .ref aB, .ref aS, .ref aT, .int (nI (lo % R)), .int (nI (hi - lo)), .int (nI (off hi % R)), .int (nI (off hi - off lo))])), (aT, .inl (cT, R, .inl Tf))] hz) := by
  refine Met.ofW (cc := cX1_passUnwanted) (maxL := 1) (ret := none) (by decide) rfl ?_
  intro p e s m args below meth c s₁ B hml hv
  obtain ⟨rfl, hsz, hP, hK, hD0⟩ := hv
  have hx := B.exec
  have hb := B.bytes
  have hr := B.returns
  have hts := atoms_spec (ws := wsX1_passUnwanted) B.pre
  have hown : s.vm.findClass RX1 = some m.cls := findClass_of_methodNamed B.named
  have hlocks := B.notSynchronized
  have hi_P : ∀ w ∈ u_ws RX1 TX1 12, w ∈ wsX1_passUnwanted := by decide +kernel
  subst hsz
  have hD := hD0.self (sz := s.heap.size)
  generalize hAe : va_A [(aP, .inr (1, [.ref aR, .ref aX, .int (nI ts), .ref aO, .int (nI os), .int (nI uw), .int fr, .int to, .int (nI (pa - lo)), .int (nI co), .int (nI dr), .int (nI de)])), (aR, .inr (0, [.int (nI R), .ref aB, .ref aS, .ref aT, .int (nI (lo % R)), .int (nI (hi - lo)), .int (nI (off hi % R)), .int (nI (off hi - off lo))])), (aT, .inl (cT, R, .inl Tf))] s.heap.size = A at hD ⊢
  have hA : ∀ q : Nat, s.heap.size ≤ q → A q := fun q h => by rw [← hAe]; exact Or.inr h
  have hS : va_S A s.heap s.heap [] := va_S.rf
  have hP : va_P (dC, dI) vwCl [(aP, .inr (1, [.ref aR, .ref aX, .int (nI ts), .ref aO, .int (nI os), .int (nI uw), .int fr, .int to, .int (nI (pa - lo)), .int (nI co), .int (nI dr), .int (nI de)])), (aR, .inr (0, [.int (nI R), .ref aB, .ref aS, .ref aT, .int (nI (lo % R)), .int (nI (hi - lo)), .int (nI (off hi % R)), .int (nI (off hi - off lo))])), (aT, .inl (cT, R, .inl Tf))] s.heap := hP
  have hl := lv_entry ([.ref aP]) (n := 1) (Nat.le_of_ble_eq_true rfl)
  rw [lg_entry_eq]
  generalize (lg_sl ([.ref aP]) ++ List.replicate (1 - (lg_sl ([.ref aP])).length) Slot.unset).toArray = ls at hl ⊢
  have hl : lv_has ls 1 [(0, .ref aP)] := hl
  have hRR := hok.1
  have hll := hok.2.1
  have hcap := hok.2.2.1
  have hgap := hok.gap (Nat.le_refl lo) hll (Nat.le_refl hi)
  refine zz_loop (σ := Nat) (fun n v H locs ls => (n + v = hi - lo + 1 ∧ v ≤ hi - lo ∧ pa - lo ≤ v ∧ ∀ t, pa - lo ≤ t → t < v → ¬ (fr ≤ tm (lo + t) ∧ tm (lo + t) ≤ to)) ∧ va_P (dC, dI) vwCl [(aP, .inr (1, [.ref aR, .ref aX, .int (nI ts), .ref aO, .int (nI os), .int (nI uw), .int fr, .int to, .int (nI v), .int (nI co), .int (nI dr), .int (nI de)])), (aR, .inr (0, [.int (nI R), .ref aB, .ref aS, .ref aT, .int (nI (lo % R)), .int (nI (hi - lo)), .int (nI (off hi % R)), .int (nI (off hi - off lo))])), (aT, .inl (cT, R, .inl Tf))] H ∧ va_D A [(aP, .inr (1, [.ref aR, .ref aX, .int (nI ts), .ref aO, .int (nI os), .int (nI uw), .int fr, .int to, .int (nI v), .int (nI co), .int (nI dr), .int (nI de)])), (aR, .inr (0, [.int (nI R), .ref aB, .ref aS, .ref aT, .int (nI (lo % R)), .int (nI (hi - lo)), .int (nI (off hi % R)), .int (nI (off hi - off lo))])), (aT, .inl (cT, R, .inl Tf))] ∧ va_S A s.heap H locs ∧ lv_has ls 1 [(0, .ref aP)]) (fun v H locs ls h => ?_) (fun n v H locs ls h ih => ?_) (hi - lo + 1 - (pa - lo)) (pa - lo) _ _ _ ⟨⟨by omega, by omega, Nat.le_refl _, fun t h1 h2 => absurd h2 (Nat.not_lt.mpr h1)⟩, hP, hD, hS, lv_sub hl [0] rfl⟩
  · obtain ⟨⟨h1, h2, -⟩, -⟩ := h
    omega
  obtain ⟨⟨hj1, hj2, hj4, hj3⟩, hP, hD, hS, hl⟩ := h
  have hP : va_P (dC, dI) vwCl [(aP, .inr (1, [.ref aR, .ref aX, .int (nI ts), .ref aO, .int (nI os), .int (nI uw), .int fr, .int to, .int (nI v), .int (nI co), .int (nI dr), .int (nI de)])), (aR, .inr (0, [.int (nI R), .ref aB, .ref aS, .ref aT, .int (nI (lo % R)), .int (nI (hi - lo)), .int (nI (off hi % R)), .int (nI (off hi - off lo))])), (aT, .inl (cT, R, .inl Tf))] H := hP
  have hD : va_D A [(aP, .inr (1, [.ref aR, .ref aX, .int (nI ts), .ref aO, .int (nI os), .int (nI uw), .int fr, .int to, .int (nI v), .int (nI co), .int (nI dr), .int (nI de)])), (aR, .inr (0, [.int (nI R), .ref aB, .ref aS, .ref aT, .int (nI (lo % R)), .int (nI (hi - lo)), .int (nI (off hi % R)), .int (nI (off hi - off lo))])), (aT, .inl (cT, R, .inl Tf))] := hD
  have hl : lv_has ls 1 [(0, .ref aP)] := hl
  refine lv_aload_n hx hb dX1_passUnwanted_0 rfl (lv_at hl 0 rfl) ?_
  refine va_get (D := (dC, dI)) (ci := 1) (v := .int (nI v)) (C := RX1) (T := TX1) (N := 12) hx hb hts hi_P hown hK hP 0 rfl rfl 8 (by decide) (hts (.fieldLink RX1 78 "PacketStore" "passed" "I") (by decide +kernel)) (fun _ h9 => h9) rfl dX1_passUnwanted_1 ?_
  refine lv_aload_n hx hb dX1_passUnwanted_4 rfl (lv_at hl 0 rfl) ?_
  refine va_get (D := (dC, dI)) (ci := 1) (v := .ref aR) (C := RX1) (T := TX1) (N := 12) hx hb hts hi_P hown hK hP 0 rfl rfl 0 (by decide) (hts (.fieldLink RX1 23 "PacketStore" "ring" "LPacketStore$Ring;") (by decide +kernel)) (fun _ h9 => h9) rfl dX1_passUnwanted_5 ?_
  refine zz_callR (As := []) (rest := [.int (nI v)]) ⟨hx, hb, hml, hown, hts⟩ (c_R_packets l dC dI aR aB aS aT R (lo % R) (hi - lo) (off hi % R) (off hi - off lo)) (cwV 0 hts gX1_passUnwanted_X0_packets rfl rfl rfl (by decide +kernel) ⟨Nat.le_of_ble_eq_true rfl, Nat.le_of_ble_eq_true rfl⟩) (hP.sub [1] rfl) (hK.sub [] rfl) 0 rfl rfl rfl rfl hl.1 rfl (Nat.le_of_ble_eq_true rfl) dX1_passUnwanted_8 ⟨Nat.zero_le _, Nat.zero_le _⟩ (fun r8 e8 => ?_)
  subst e8
  refine zz_icmp_ge (a := v) (b := hi - lo) (tgt := 45) hx hb dX1_passUnwanted_11 (by decide) (by omega) (by omega) (fun c11 => ?_) (fun c11 => ?_)
  · exact W.vret hx hb hr (fun t ht hW => ⟨⟨v, rfl, ⟨hj4, hj2, hj3, Or.inl (by omega)⟩, by rw [ht]; exact hP, va_K.moved hW.alike hK, hD⟩, hS.F ht⟩) hS.2.2 dX1_passUnwanted_45
  · refine lv_aload_n hx hb dX1_passUnwanted_14 rfl (lv_at hl 0 rfl) ?_
    refine lv_aload_n hx hb dX1_passUnwanted_15 rfl (lv_at hl 0 rfl) ?_
    refine va_get (D := (dC, dI)) (ci := 1) (v := .ref aR) (C := RX1) (T := TX1) (N := 12) hx hb hts hi_P hown hK hP 0 rfl rfl 0 (by decide) (hts (.fieldLink RX1 23 "PacketStore" "ring" "LPacketStore$Ring;") (by decide +kernel)) (fun _ h9 => h9) rfl dX1_passUnwanted_16 ?_
    refine lv_aload_n hx hb dX1_passUnwanted_19 rfl (lv_at hl 0 rfl) ?_
    refine va_get (D := (dC, dI)) (ci := 1) (v := .int (nI v)) (C := RX1) (T := TX1) (N := 12) hx hb hts hi_P hown hK hP 0 rfl rfl 8 (by decide) (hts (.fieldLink RX1 78 "PacketStore" "passed" "I") (by decide +kernel)) (fun _ h9 => h9) rfl dX1_passUnwanted_20 ?_
    refine zz_callR (As := [.int (nI v)]) (rest := [.ref aP]) ⟨hx, hb, hml, hown, hts⟩ (c_R_timeOf l dC dI aR aB aS aT R (lo % R) (hi - lo) (off hi % R) (off hi - off lo) cT Tf v (Nat.mod_lt _ (by omega)) (by omega) (by omega)) (cwV 1 hts gX1_passUnwanted_X0_timeOf rfl rfl rfl (by decide +kernel) ⟨Nat.le_of_ble_eq_true rfl, Nat.le_of_ble_eq_true rfl⟩) (hP.sub [1, 2] rfl) (hK.sub [0] rfl) 0 rfl rfl rfl rfl hl.1 rfl (Nat.le_of_ble_eq_true rfl) dX1_passUnwanted_23 ⟨Nat.zero_le _, Nat.zero_le _⟩ (fun r23 e23 => ?_)
    subst e23
    refine zz_as (tm (lo + v)) (by rw [Nat.mod_add_mod]; exact htm (lo + v) (by omega) (by omega)) ?_
    refine zz_callR (As := [.int (tm (lo + v))]) (rest := []) ⟨hx, hb, hml, hown, hts⟩ (c_P_isWanted l dC dI aP aR aX aO ts os uw fr to v co dr de ((tm (lo + v)))) (cwV 1 hts gX1_passUnwanted_X1_isWanted rfl rfl rfl (by decide +kernel) ⟨Nat.le_of_ble_eq_true rfl, Nat.le_of_ble_eq_true rfl⟩) (hP.sub [0] rfl) (hK.sub [] rfl) 0 rfl rfl rfl rfl hl.1 rfl (Nat.le_of_ble_eq_true rfl) dX1_passUnwanted_26 ⟨Nat.zero_le _, Nat.zero_le _⟩ (fun r26 e26 => ?_)
    rcases e26 with ⟨e26, e29⟩ | ⟨e26, e29⟩ <;> subst e26
    · refine zz_if_ne (a := 0) (tgt := 45) hx hb dX1_passUnwanted_29 (by decide) (by decide) (fun c29 => ?_) (fun c29 => ?_)
      · exact absurd rfl c29
      · refine lv_aload_n hx hb dX1_passUnwanted_32 rfl (lv_at hl 0 rfl) ?_
        refine lv_dup hx hb dX1_passUnwanted_33 rfl ?_
        refine va_get (D := (dC, dI)) (ci := 1) (v := .int (nI v)) (C := RX1) (T := TX1) (N := 12) hx hb hts hi_P hown hK hP 0 rfl rfl 8 (by decide) (hts (.fieldLink RX1 78 "PacketStore" "passed" "I") (by decide +kernel)) (fun _ h9 => h9) rfl dX1_passUnwanted_34 ?_
        refine lv_iconst (v := nI 1) hx hb dX1_passUnwanted_37 (by decide) ?_
        refine lv_iadd hx hb dX1_passUnwanted_38 ?_
        refine zz_as (nI (v + 1)) (nI_add _ _) ?_
        refine va_put (D := (dC, dI)) (ci := 1) (v := .int (nI (v + 1))) (ty := .int) (C := RX1) (T := TX1) (N := 12) hx hb hts hi_P tyX1 tyX1_ok nmX1 hown hK hP hD hS 0 rfl rfl 8 (by decide) (hts (.fieldLink RX1 78 "PacketStore" "passed" "I") (by decide +kernel)) (fun _ h9 => h9) rfl (by decide +kernel) rfl rfl (Nat.le_of_ble_eq_true rfl) dX1_passUnwanted_39 (fun H locs hP hD hS => ?_)
        have hP : va_P (dC, dI) vwCl [(aP, .inr (1, [.ref aR, .ref aX, .int (nI ts), .ref aO, .int (nI os), .int (nI uw), .int fr, .int to, .int (nI (v + 1)), .int (nI co), .int (nI dr), .int (nI de)])), (aR, .inr (0, [.int (nI R), .ref aB, .ref aS, .ref aT, .int (nI (lo % R)), .int (nI (hi - lo)), .int (nI (off hi % R)), .int (nI (off hi - off lo))])), (aT, .inl (cT, R, .inl Tf))] H := hP
        have hD : va_D A [(aP, .inr (1, [.ref aR, .ref aX, .int (nI ts), .ref aO, .int (nI os), .int (nI uw), .int fr, .int to, .int (nI (v + 1)), .int (nI co), .int (nI dr), .int (nI de)])), (aR, .inr (0, [.int (nI R), .ref aB, .ref aS, .ref aT, .int (nI (lo % R)), .int (nI (hi - lo)), .int (nI (off hi % R)), .int (nI (off hi - off lo))])), (aT, .inl (cT, R, .inl Tf))] := hD
        refine lv_goto (tgt := 0) hx hb dX1_passUnwanted_42 (by decide) ?_
        exact ih (v + 1) _ _ _ ⟨⟨by omega, by omega, by omega, fun t h1 h2 => (Nat.lt_or_ge t v).elim (fun q => hj3 t h1 q) (fun q => by rw [show t = v by omega]; exact e29)⟩, hP, hD, hS, lv_sub hl [0] rfl⟩
    · refine zz_if_ne (a := 1) (tgt := 45) hx hb dX1_passUnwanted_29 (by decide) (by decide) (fun c29 => ?_) (fun c29 => ?_)
      · exact W.vret hx hb hr (fun t ht hW => ⟨⟨v, rfl, ⟨hj4, hj2, hj3, Or.inr ⟨c11, e29⟩⟩, by rw [ht]; exact hP, va_K.moved hW.alike hK, hD⟩, hS.F ht⟩) hS.2.2 dX1_passUnwanted_45
      · exact absurd c29 (by decide)
