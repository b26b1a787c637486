set_option maxHeartbeats 4000000 in
set_option maxRecDepth 100000 in
/-- start(k): how many bytes there are before packet k -/
theorem c_M_start (l : Launch) (dC : Nat → ClassId) (dI : Nat → Nat → Nat) (mM mX mO mT mS mB R lo hi : Nat) (off : Nat → Nat) (ts os dr de uw : Nat) (fr to : Int32) (pa : Nat) (eS : ClassId) (Sm : Nat → Int32) (k : Nat) (hok : rg_ok R lo hi off) (hsz : ∀ k, k < hi - lo → Sm k = nI (off (lo + k + 1) - off (lo + k))) (hk : k ≤ hi - lo) : Met l yM_start wsM_start ({ frames := 0, cells := 0, slots := 0, locals := 0 }) (va_Pc [.ref mM, .int (nI k)] (fun U => va_P (dC, dI) vwCl [(mM, .inr (2, [.int (nI 0), .int (nI R), .ref mX, .int (nI ts), .ref mO, .int (nI os), .int (nI (hi - lo)), .ref mT, .ref mS, .ref mB, .int (nI (off hi - off lo)), .int (nI hi), .int (nI dr), .int (nI de), .int (nI uw), .int fr, .int to, .int (nI pa)])), (mS, .inl (eS, 16384, .inl Sm))] U.heap ∧ va_K (dC, dI) vwCl [(eS, .int)] U)) (vp_Si (fun r => r = nI (off (lo + k) - off lo))) 0 0 (fun _ => False) := by
  refine Met.ofW (cc := cM_start) (maxL := 4) (ret := (some .int)) (by decide) rfl ?_
  intro p e s m args below meth c s₁ B hml hv
  obtain ⟨rfl, hP, hK⟩ := hv
  have hx := B.exec
  have hb := B.bytes
  have hr := B.returns
  have hts := atoms_spec (ws := wsM_start) B.pre
  have hown : s.vm.findClass RM = some m.cls := findClass_of_methodNamed B.named
  have hlocks := B.notSynchronized
  have hi_M : ∀ w ∈ u_ws RM TM 18, w ∈ wsM_start := by decide +kernel
  have hP : va_P (dC, dI) vwCl [(mM, .inr (2, [.int (nI 0), .int (nI R), .ref mX, .int (nI ts), .ref mO, .int (nI os), .int (nI (hi - lo)), .ref mT, .ref mS, .ref mB, .int (nI (off hi - off lo)), .int (nI hi), .int (nI dr), .int (nI de), .int (nI uw), .int fr, .int to, .int (nI pa)])), (mS, .inl (eS, 16384, .inl Sm))] s.heap := hP
  have hl := lv_entry ([.ref mM, .int (nI k)]) (n := 4) (Nat.le_of_ble_eq_true rfl)
  rw [lg_entry_eq]
  generalize (lg_sl ([.ref mM, .int (nI k)]) ++ List.replicate (4 - (lg_sl ([.ref mM, .int (nI k)])).length) Slot.unset).toArray = ls at hl ⊢
  have hl : lv_has ls 4 [(0, .ref mM), (1, .int (nI k))] := hl
  have hRR := hok.1
  have hll := hok.2.1
  have hcap := hok.2.2.1
  have hgap := hok.gap (Nat.le_refl lo) hll (Nat.le_refl hi)
  refine lv_iconst (v := nI 0) hx hb dM_start_0 (by decide) ?_
  refine zz_as (nI (off (lo + 0) - off lo)) (congrArg nI (Nat.sub_self (off lo)).symm) ?_
  refine lv_istore_n (lv' := [(2, .int (nI (off (lo + 0) - off lo))), (0, .ref mM), (1, .int (nI k))]) hx hb dM_start_1 rfl hl (by decide) rfl (fun ls hl => ?_)
  refine lv_iconst (v := nI 0) hx hb dM_start_2 (by decide) ?_
  refine lv_istore_n (lv' := [(3, .int (nI 0)), (2, .int (nI (off (lo + 0) - off lo))), (0, .ref mM), (1, .int (nI k))]) hx hb dM_start_3 rfl hl (by decide) rfl (fun ls hl => ?_)
  refine zz_loop (σ := Nat) (fun n v H locs ls => (n + v = k + 1 ∧ v ≤ k) ∧ H = s.heap ∧ locs = [] ∧ lv_has ls 4 [(3, .int (nI v)), (2, .int (nI (off (lo + v) - off lo))), (0, .ref mM), (1, .int (nI k))]) (fun v H locs ls h => ?_) (fun n v H locs ls h ih => ?_) (k + 1) 0 _ _ _ ⟨⟨rfl, Nat.zero_le _⟩, rfl, rfl, lv_sub hl [0, 1, 2, 3] rfl⟩
  · obtain ⟨⟨h1, h2⟩, -⟩ := h
    omega
  obtain ⟨⟨hj1, hj2⟩, rfl, rfl, hl⟩ := h
  have hl : lv_has ls 4 [(3, .int (nI v)), (2, .int (nI (off (lo + v) - off lo))), (0, .ref mM), (1, .int (nI k))] := hl
  refine lv_iload_n hx hb dM_start_4 rfl (lv_at hl 0 rfl) ?_
  refine lv_iload_n hx hb dM_start_5 rfl (lv_at hl 3 rfl) ?_
  refine zz_icmp_ge (a := v) (b := k) (tgt := 24) hx hb dM_start_6 (by decide) (by omega) (by omega) (fun c6 => ?_) (fun c6 => ?_)
  · refine lv_iload_n hx hb dM_start_24 rfl (lv_at hl 1 rfl) ?_
    exact W.iret (v := (nI (off (lo + v) - off lo))) hx hb hr (fun t ht hW => ⟨_, rfl, by rw [show v = k by omega], ht⟩) (fun q hq => by cases hq) dM_start_25
  · refine lv_iload_n hx hb dM_start_9 rfl (lv_at hl 1 rfl) ?_
    refine lv_aload_n hx hb dM_start_10 rfl (lv_at hl 2 rfl) ?_
    refine va_get (D := (dC, dI)) (ci := 2) (v := .ref mS) (C := RM) (T := TM) (N := 18) hx hb hts hi_M hown hK hP 0 rfl rfl 8 (by decide) (hts (.fieldLink RM 20 "PacketStoreModel" "size" "[I") (by decide +kernel)) (fun _ h9 => h9) rfl dM_start_11 ?_
    refine lv_iload_n hx hb dM_start_14 rfl (lv_at hl 0 rfl) ?_
    refine zz_iald hx hb hK hP 1 0 rfl rfl (j := v) (by omega) (by omega) dM_start_15 ?_
    refine zz_as (nI (off (lo + v + 1) - off (lo + v))) (hsz v (by omega)) ?_
    have hk1 := hok.2.2.2 (lo + v) (by omega) (by omega)
    have hk2 := hok.gap (Nat.le_refl lo) (show lo ≤ lo + v by omega) (by omega)
    refine lv_iadd hx hb dM_start_16 ?_
    refine zz_as (nI ((off (lo + v) - off lo) + (off (lo + v + 1) - off (lo + v)))) (nI_add _ _) ?_
    refine zz_as (nI (off (lo + (v + 1)) - off lo)) (congrArg nI (show _ = off (lo + v + 1) - off lo by omega)) ?_
    refine lv_istore_n (lv' := [(2, .int (nI (off (lo + (v + 1)) - off lo))), (3, .int (nI v)), (0, .ref mM), (1, .int (nI k))]) hx hb dM_start_17 rfl hl (by decide) rfl (fun ls hl => ?_)
    refine lv_iinc (v := nI (v + 1)) (lv' := [(3, .int (nI (v + 1))), (2, .int (nI (off (lo + (v + 1)) - off lo))), (0, .ref mM), (1, .int (nI k))]) hx hb dM_start_18 hl (k := 1) rfl (show nI v + 1 = nI (v + 1) from nI_1 _) (by decide) rfl (fun ls hl => ?_)
    refine lv_goto (tgt := 4) hx hb dM_start_21 (by decide) ?_
    exact ih (v + 1) _ _ _ ⟨⟨by omega, by omega⟩, rfl, rfl, lv_sub hl [0, 1, 2, 3] rfl⟩
set_option maxHeartbeats 4000000 in
set_option maxRecDepth 100000 in
/-- goes(): the oldest packet goes -/
theorem c_M_goes (l : Launch) (dC : Nat → ClassId) (dI : Nat → Nat → Nat) (mM mX mO mT mS mB R lo hi : Nat) (off : Nat → Nat) (ts os dr de uw : Nat) (fr to : Int32) (pa : Nat) (eT eS eB : ClassId) (Tm Sm Bm tm bz : Nat → Int32) (hok : rg_ok R lo hi off) (hrm : rm_rep lo hi off tm bz Bm Sm Tm) (hlt : lo < hi) (hz : Nat) : Met l yM_goes wsM_goes ({ frames := 0, cells := 0, slots := 0, locals := 0 }) (va_Pc [.ref mM] (fun U => U.heap.size = hz ∧ va_P (dC, dI) vwCl [(mM, .inr (2, [.int (nI 0), .int (nI R), .ref mX, .int (nI ts), .ref mO, .int (nI os), .int (nI (hi - lo)), .ref mT, .ref mS, .ref mB, .int (nI (off hi - off lo)), .int (nI hi), .int (nI dr), .int (nI de), .int (nI uw), .int fr, .int to, .int (nI pa)])), (mT, .inl (eT, 16384, .inl Tm)), (mS, .inl (eS, 16384, .inl Sm)), (mB, .inl (eB, 16384, .inl Bm))] U.heap ∧ va_K (dC, dI) vwCl [(eT, .int), (eS, .int), (eB, .byte)] U ∧ va_D (fun _ => True) [(mM, .inr (2, [.int (nI 0), .int (nI R), .ref mX, .int (nI ts), .ref mO, .int (nI os), .int (nI (hi - lo)), .ref mT, .ref mS, .ref mB, .int (nI (off hi - off lo)), .int (nI hi), .int (nI dr), .int (nI de), .int (nI uw), .int fr, .int to, .int (nI pa)])), (mT, .inl (eT, 16384, .inl Tm)), (mS, .inl (eS, 16384, .inl Sm)), (mB, .inl (eB, 16384, .inl Bm))])) (va_Qv (fun (u : (Nat → Int32) × (Nat → Int32) × (Nat → Int32)) => rm_rep (lo + 1) hi off tm bz u.2.2 u.2.1 u.1) (fun u t => va_P (dC, dI) vwCl [(mM, .inr (2, [.int (nI 0), .int (nI R), .ref mX, .int (nI ts), .ref mO, .int (nI os), .int (nI (hi - (lo + 1))), .ref mT, .ref mS, .ref mB, .int (nI (off hi - off (lo + 1))), .int (nI hi), .int (nI dr), .int (nI de), .int (nI uw), .int fr, .int to, .int (nI pa)])), (mT, .inl (eT, 16384, .inl u.1)), (mS, .inl (eS, 16384, .inl u.2.1)), (mB, .inl (eB, 16384, .inl u.2.2))] t.heap ∧ va_K (dC, dI) vwCl [(eT, .int), (eS, .int), (eB, .byte)] t ∧ va_D (va_A [(mM, .inr (2, [.int (nI 0), .int (nI R), .ref mX, .int (nI ts), .ref mO, .int (nI os), .int (nI (hi - lo)), .ref mT, .ref mS, .ref mB, .int (nI (off hi - off lo)), .int (nI hi), .int (nI dr), .int (nI de), .int (nI uw), .int fr, .int to, .int (nI pa)])), (mT, .inl (eT, 16384, .inl Tm)), (mS, .inl (eS, 16384, .inl Sm)), (mB, .inl (eB, 16384, .inl Bm))] hz) [(mM, .inr (2, [.int (nI 0), .int (nI R), .ref mX, .int (nI ts), .ref mO, .int (nI os), .int (nI (hi - (lo + 1))), .ref mT, .ref mS, .ref mB, .int (nI (off hi - off (lo + 1))), .int (nI hi), .int (nI dr), .int (nI de), .int (nI uw), .int fr, .int to, .int (nI pa)])), (mT, .inl (eT, 16384, .inl u.1)), (mS, .inl (eS, 16384, .inl u.2.1)), (mB, .inl (eB, 16384, .inl u.2.2))]) (va_A [(mM, .inr (2, [.int (nI 0), .int (nI R), .ref mX, .int (nI ts), .ref mO, .int (nI os), .int (nI (hi - lo)), .ref mT, .ref mS, .ref mB, .int (nI (off hi - off lo)), .int (nI hi), .int (nI dr), .int (nI de), .int (nI uw), .int fr, .int to, .int (nI pa)])), (mT, .inl (eT, 16384, .inl Tm)), (mS, .inl (eS, 16384, .inl Sm)), (mB, .inl (eB, 16384, .inl Bm))] hz)) 0 0 (va_A [(mM, .inr (2, [.int (nI 0), .int (nI R), .ref mX, .int (nI ts), .ref mO, .int (nI os), .int (nI (hi - lo)), .ref mT, .ref mS, .ref mB, .int (nI (off hi - off lo)), .int (nI hi), .int (nI dr), .int (nI de), .int (nI uw), .int fr, .int to, .int (nI pa)])), (mT, .inl (eT, 16384, .inl Tm)), (mS, .inl (eS, 16384, .inl Sm)), (mB, .inl (eB, 16384, .inl Bm))] hz) := by
  refine Met.ofW (cc := cM_goes) (maxL := 3) (ret := none) (by decide) rfl ?_
  intro p e s m args below meth c s₁ B hml hv
  obtain ⟨rfl, hsz, hP, hK, hD0⟩ := hv
  have hx := B.exec
  have hb := B.bytes
  have hr := B.returns
  have hts := atoms_spec (ws := wsM_goes) B.pre
  have hown : s.vm.findClass RM = some m.cls := findClass_of_methodNamed B.named
  have hlocks := B.notSynchronized
  have hi_M : ∀ w ∈ u_ws RM TM 18, w ∈ wsM_goes := by decide +kernel
  subst hsz
  have hD := hD0.self (sz := s.heap.size)
  generalize hAe : va_A [(mM, .inr (2, [.int (nI 0), .int (nI R), .ref mX, .int (nI ts), .ref mO, .int (nI os), .int (nI (hi - lo)), .ref mT, .ref mS, .ref mB, .int (nI (off hi - off lo)), .int (nI hi), .int (nI dr), .int (nI de), .int (nI uw), .int fr, .int to, .int (nI pa)])), (mT, .inl (eT, 16384, .inl Tm)), (mS, .inl (eS, 16384, .inl Sm)), (mB, .inl (eB, 16384, .inl Bm))] s.heap.size = A at hD ⊢
  have hA : ∀ q : Nat, s.heap.size ≤ q → A q := fun q h => by rw [← hAe]; exact Or.inr h
  have hS : va_S A s.heap s.heap [] := va_S.rf
  have hP : va_P (dC, dI) vwCl [(mM, .inr (2, [.int (nI 0), .int (nI R), .ref mX, .int (nI ts), .ref mO, .int (nI os), .int (nI (hi - lo)), .ref mT, .ref mS, .ref mB, .int (nI (off hi - off lo)), .int (nI hi), .int (nI dr), .int (nI de), .int (nI uw), .int fr, .int to, .int (nI pa)])), (mT, .inl (eT, 16384, .inl Tm)), (mS, .inl (eS, 16384, .inl Sm)), (mB, .inl (eB, 16384, .inl Bm))] s.heap := hP
  have hl := lv_entry ([.ref mM]) (n := 3) (Nat.le_of_ble_eq_true rfl)
  rw [lg_entry_eq]
  generalize (lg_sl ([.ref mM]) ++ List.replicate (3 - (lg_sl ([.ref mM])).length) Slot.unset).toArray = ls at hl ⊢
  have hl : lv_has ls 3 [(0, .ref mM)] := hl
  have hRR := hok.1
  have hll := hok.2.1
  have hcap := hok.2.2.1
  have hgap := hok.gap (Nat.le_refl lo) hll (Nat.le_refl hi)
  have hk1 : off lo < off (lo + 1) := hok.2.2.2 lo (Nat.le_refl lo) hlt
  have hk3 : off (lo + 1) + (hi - (lo + 1)) ≤ off hi := hok.gap (by omega) (by omega) (Nat.le_refl hi)
  refine lv_aload_n hx hb dM_goes_0 rfl (lv_at hl 0 rfl) ?_
  refine va_get (D := (dC, dI)) (ci := 2) (v := .ref mS) (C := RM) (T := TM) (N := 18) hx hb hts hi_M hown hK hP 0 rfl rfl 8 (by decide) (hts (.fieldLink RM 20 "PacketStoreModel" "size" "[I") (by decide +kernel)) (fun _ h9 => h9) rfl dM_goes_1 ?_
  refine lv_iconst (v := nI 0) hx hb dM_goes_4 (by decide) ?_
  refine zz_iald hx hb hK hP 2 1 rfl rfl (j := 0) (by omega) (by omega) dM_goes_5 ?_
  refine zz_as (nI (off (lo + 1) - off lo)) (hrm.2.1 0 (by omega)) ?_
  refine lv_istore_n (lv' := [(1, .int (nI (off (lo + 1) - off lo))), (0, .ref mM)]) hx hb dM_goes_6 rfl hl (by decide) rfl (fun ls hl => ?_)
  refine lv_iconst (v := nI 0) hx hb dM_goes_7 (by decide) ?_
  refine lv_istore_n (lv' := [(2, .int (nI 0)), (1, .int (nI (off (lo + 1) - off lo))), (0, .ref mM)]) hx hb dM_goes_8 rfl hl (by decide) rfl (fun ls hl => ?_)
  refine zz_loop (σ := Nat × (Nat → Int32)) (fun n v H locs ls => (n + v.1 = off hi - off (lo + 1) + 1 ∧ v.1 ≤ off hi - off (lo + 1) ∧ (∀ q, q < v.1 → v.2 q = (bz (off (lo + 1) + q)).toInt8.toInt32) ∧ ∀ q, v.1 ≤ q → q < off hi - off lo → v.2 q = (bz (off lo + q)).toInt8.toInt32) ∧ va_P (dC, dI) vwCl [(mM, .inr (2, [.int (nI 0), .int (nI R), .ref mX, .int (nI ts), .ref mO, .int (nI os), .int (nI (hi - lo)), .ref mT, .ref mS, .ref mB, .int (nI (off hi - off lo)), .int (nI hi), .int (nI dr), .int (nI de), .int (nI uw), .int fr, .int to, .int (nI pa)])), (mT, .inl (eT, 16384, .inl Tm)), (mS, .inl (eS, 16384, .inl Sm)), (mB, .inl (eB, 16384, .inl v.2))] H ∧ va_D A [(mM, .inr (2, [.int (nI 0), .int (nI R), .ref mX, .int (nI ts), .ref mO, .int (nI os), .int (nI (hi - lo)), .ref mT, .ref mS, .ref mB, .int (nI (off hi - off lo)), .int (nI hi), .int (nI dr), .int (nI de), .int (nI uw), .int fr, .int to, .int (nI pa)])), (mT, .inl (eT, 16384, .inl Tm)), (mS, .inl (eS, 16384, .inl Sm)), (mB, .inl (eB, 16384, .inl v.2))] ∧ va_S A s.heap H locs ∧ lv_has ls 3 [(2, .int (nI v.1)), (0, .ref mM), (1, .int (nI (off (lo + 1) - off lo)))]) (fun v H locs ls h => ?_) (fun n v H locs ls h ih => ?_) (off hi - off (lo + 1) + 1) (0, Bm) _ _ _ ⟨⟨rfl, Nat.zero_le _, fun q h => absurd h (Nat.not_lt_zero q), fun q _ h => hrm.2.2 q h⟩, hP, hD, hS, lv_sub hl [0, 2, 1] rfl⟩
  · obtain ⟨⟨h1, h2, -⟩, -⟩ := h
    omega
  obtain ⟨k, Bg⟩ := v
  obtain ⟨⟨hj1, hj2, hB1, hB2⟩, hP, hD, hS, hl⟩ := h
  dsimp only at hj1 hj2 hB1 hB2
  have hP : va_P (dC, dI) vwCl [(mM, .inr (2, [.int (nI 0), .int (nI R), .ref mX, .int (nI ts), .ref mO, .int (nI os), .int (nI (hi - lo)), .ref mT, .ref mS, .ref mB, .int (nI (off hi - off lo)), .int (nI hi), .int (nI dr), .int (nI de), .int (nI uw), .int fr, .int to, .int (nI pa)])), (mT, .inl (eT, 16384, .inl Tm)), (mS, .inl (eS, 16384, .inl Sm)), (mB, .inl (eB, 16384, .inl Bg))] H := hP
  have hD : va_D A [(mM, .inr (2, [.int (nI 0), .int (nI R), .ref mX, .int (nI ts), .ref mO, .int (nI os), .int (nI (hi - lo)), .ref mT, .ref mS, .ref mB, .int (nI (off hi - off lo)), .int (nI hi), .int (nI dr), .int (nI de), .int (nI uw), .int fr, .int to, .int (nI pa)])), (mT, .inl (eT, 16384, .inl Tm)), (mS, .inl (eS, 16384, .inl Sm)), (mB, .inl (eB, 16384, .inl Bg))] := hD
  have hl : lv_has ls 3 [(2, .int (nI k)), (0, .ref mM), (1, .int (nI (off (lo + 1) - off lo)))] := hl
  refine lv_iload_n hx hb dM_goes_9 rfl (lv_at hl 0 rfl) ?_
  refine lv_iload_n hx hb dM_goes_10 rfl (lv_at hl 2 rfl) ?_
  refine lv_iadd hx hb dM_goes_11 ?_
  refine zz_as (nI (k + (off (lo + 1) - off lo))) (nI_add _ _) ?_
  refine lv_aload_n hx hb dM_goes_12 rfl (lv_at hl 1 rfl) ?_
  refine va_get (D := (dC, dI)) (ci := 2) (v := .int (nI (off hi - off lo))) (C := RM) (T := TM) (N := 18) hx hb hts hi_M hown hK hP 0 rfl rfl 10 (by decide) (hts (.fieldLink RM 33 "PacketStoreModel" "used" "I") (by decide +kernel)) (fun _ h9 => h9) rfl dM_goes_13 ?_
  refine zz_icmp_ge (a := k + (off (lo + 1) - off lo)) (b := off hi - off lo) (tgt := 39) hx hb dM_goes_16 (by decide) (by omega) (by omega) (fun c16 => ?_) (fun c16 => ?_)
  · refine lv_aload_n hx hb dM_goes_39 rfl (lv_at hl 1 rfl) ?_
    refine lv_dup hx hb dM_goes_40 rfl ?_
    refine va_get (D := (dC, dI)) (ci := 2) (v := .int (nI (off hi - off lo))) (C := RM) (T := TM) (N := 18) hx hb hts hi_M hown hK hP 0 rfl rfl 10 (by decide) (hts (.fieldLink RM 33 "PacketStoreModel" "used" "I") (by decide +kernel)) (fun _ h9 => h9) rfl dM_goes_41 ?_
    refine lv_iload_n hx hb dM_goes_44 rfl (lv_at hl 2 rfl) ?_
    refine lv_isub hx hb dM_goes_45 ?_
    refine zz_as (nI ((off hi - off lo) - (off (lo + 1) - off lo))) (pk_sub (by omega)) ?_
    refine zz_as (nI (off hi - off (lo + 1))) (congrArg nI (by omega)) ?_
    refine va_put (D := (dC, dI)) (ci := 2) (v := .int (nI (off hi - off (lo + 1)))) (ty := .int) (C := RM) (T := TM) (N := 18) hx hb hts hi_M tyM tyM_ok nmM hown hK hP hD hS 0 rfl rfl 10 (by decide) (hts (.fieldLink RM 33 "PacketStoreModel" "used" "I") (by decide +kernel)) (fun _ h9 => h9) rfl (by decide +kernel) rfl rfl (Nat.le_of_ble_eq_true rfl) dM_goes_46 (fun H locs hP hD hS => ?_)
    have hP : va_P (dC, dI) vwCl [(mM, .inr (2, [.int (nI 0), .int (nI R), .ref mX, .int (nI ts), .ref mO, .int (nI os), .int (nI (hi - lo)), .ref mT, .ref mS, .ref mB, .int (nI (off hi - off (lo + 1))), .int (nI hi), .int (nI dr), .int (nI de), .int (nI uw), .int fr, .int to, .int (nI pa)])), (mT, .inl (eT, 16384, .inl Tm)), (mS, .inl (eS, 16384, .inl Sm)), (mB, .inl (eB, 16384, .inl Bg))] H := hP
    have hD : va_D A [(mM, .inr (2, [.int (nI 0), .int (nI R), .ref mX, .int (nI ts), .ref mO, .int (nI os), .int (nI (hi - lo)), .ref mT, .ref mS, .ref mB, .int (nI (off hi - off (lo + 1))), .int (nI hi), .int (nI dr), .int (nI de), .int (nI uw), .int fr, .int to, .int (nI pa)])), (mT, .inl (eT, 16384, .inl Tm)), (mS, .inl (eS, 16384, .inl Sm)), (mB, .inl (eB, 16384, .inl Bg))] := hD
    refine lv_aload_n hx hb dM_goes_49 rfl (lv_at hl 1 rfl) ?_
    refine lv_dup hx hb dM_goes_50 rfl ?_
    refine va_get (D := (dC, dI)) (ci := 2) (v := .int (nI (hi - lo))) (C := RM) (T := TM) (N := 18) hx hb hts hi_M hown hK hP 0 rfl rfl 6 (by decide) (hts (.fieldLink RM 36 "PacketStoreModel" "many" "I") (by decide +kernel)) (fun _ h9 => h9) rfl dM_goes_51 ?_
    refine lv_iconst (v := nI 1) hx hb dM_goes_54 (by decide) ?_
    refine lv_isub hx hb dM_goes_55 ?_
    refine zz_as (nI ((hi - lo) - 1)) (pk_sub (by omega)) ?_
    refine zz_as (nI (hi - (lo + 1))) (congrArg nI (by omega)) ?_
    refine va_put (D := (dC, dI)) (ci := 2) (v := .int (nI (hi - (lo + 1)))) (ty := .int) (C := RM) (T := TM) (N := 18) hx hb hts hi_M tyM tyM_ok nmM hown hK hP hD hS 0 rfl rfl 6 (by decide) (hts (.fieldLink RM 36 "PacketStoreModel" "many" "I") (by decide +kernel)) (fun _ h9 => h9) rfl (by decide +kernel) rfl rfl (Nat.le_of_ble_eq_true rfl) dM_goes_56 (fun H locs hP hD hS => ?_)
    have hP : va_P (dC, dI) vwCl [(mM, .inr (2, [.int (nI 0), .int (nI R), .ref mX, .int (nI ts), .ref mO, .int (nI os), .int (nI (hi - (lo + 1))), .ref mT, .ref mS, .ref mB, .int (nI (off hi - off (lo + 1))), .int (nI hi), .int (nI dr), .int (nI de), .int (nI uw), .int fr, .int to, .int (nI pa)])), (mT, .inl (eT, 16384, .inl Tm)), (mS, .inl (eS, 16384, .inl Sm)), (mB, .inl (eB, 16384, .inl Bg))] H := hP
    have hD : va_D A [(mM, .inr (2, [.int (nI 0), .int (nI R), .ref mX, .int (nI ts), .ref mO, .int (nI os), .int (nI (hi - (lo + 1))), .ref mT, .ref mS, .ref mB, .int (nI (off hi - off (lo + 1))), .int (nI hi), .int (nI dr), .int (nI de), .int (nI uw), .int fr, .int to, .int (nI pa)])), (mT, .inl (eT, 16384, .inl Tm)), (mS, .inl (eS, 16384, .inl Sm)), (mB, .inl (eB, 16384, .inl Bg))] := hD
    refine lv_iconst (v := nI 0) hx hb dM_goes_59 (by decide) ?_
    refine lv_istore_n (lv' := [(2, .int (nI 0)), (0, .ref mM), (1, .int (nI (off (lo + 1) - off lo)))]) hx hb dM_goes_60 rfl hl (by decide) rfl (fun ls hl => ?_)
    refine zz_loop (σ := Nat × (Nat → Int32) × (Nat → Int32)) (fun n v H locs ls => (n + v.1 = hi - (lo + 1) + 1 ∧ v.1 ≤ hi - (lo + 1) ∧ ((∀ j, j < v.1 → v.2.1 j = tm (lo + 1 + j)) ∧ ∀ j, v.1 ≤ j → j < hi - lo → v.2.1 j = tm (lo + j)) ∧ (∀ j, j < v.1 → v.2.2 j = nI (off (lo + 1 + j + 1) - off (lo + 1 + j))) ∧ ∀ j, v.1 ≤ j → j < hi - lo → v.2.2 j = nI (off (lo + j + 1) - off (lo + j))) ∧ va_P (dC, dI) vwCl [(mM, .inr (2, [.int (nI 0), .int (nI R), .ref mX, .int (nI ts), .ref mO, .int (nI os), .int (nI (hi - (lo + 1))), .ref mT, .ref mS, .ref mB, .int (nI (off hi - off (lo + 1))), .int (nI hi), .int (nI dr), .int (nI de), .int (nI uw), .int fr, .int to, .int (nI pa)])), (mT, .inl (eT, 16384, .inl v.2.1)), (mS, .inl (eS, 16384, .inl v.2.2)), (mB, .inl (eB, 16384, .inl Bg))] H ∧ va_D A [(mM, .inr (2, [.int (nI 0), .int (nI R), .ref mX, .int (nI ts), .ref mO, .int (nI os), .int (nI (hi - (lo + 1))), .ref mT, .ref mS, .ref mB, .int (nI (off hi - off (lo + 1))), .int (nI hi), .int (nI dr), .int (nI de), .int (nI uw), .int fr, .int to, .int (nI pa)])), (mT, .inl (eT, 16384, .inl v.2.1)), (mS, .inl (eS, 16384, .inl v.2.2)), (mB, .inl (eB, 16384, .inl Bg))] ∧ va_S A s.heap H locs ∧ lv_has ls 3 [(2, .int (nI v.1)), (0, .ref mM)]) (fun v H locs ls h => ?_) (fun n v H locs ls h ih => ?_) (hi - (lo + 1) + 1) (0, Tm, Sm) _ _ _ ⟨⟨rfl, Nat.zero_le _, ⟨fun j h => absurd h (Nat.not_lt_zero j), fun j _ h => hrm.1 j h⟩, fun j h => absurd h (Nat.not_lt_zero j), fun j _ h => hrm.2.1 j h⟩, hP, hD, hS, lv_sub hl [0, 1] rfl⟩
    · obtain ⟨⟨h1, h2, -⟩, -⟩ := h
      omega
    obtain ⟨k2, Tg, Sg⟩ := v
    obtain ⟨⟨hi1, hi2, ⟨hT1, hT2⟩, hS1, hS2⟩, hP, hD, hS, hl⟩ := h
    dsimp only at hi1 hi2 hT1 hT2 hS1 hS2
    have hP : va_P (dC, dI) vwCl [(mM, .inr (2, [.int (nI 0), .int (nI R), .ref mX, .int (nI ts), .ref mO, .int (nI os), .int (nI (hi - (lo + 1))), .ref mT, .ref mS, .ref mB, .int (nI (off hi - off (lo + 1))), .int (nI hi), .int (nI dr), .int (nI de), .int (nI uw), .int fr, .int to, .int (nI pa)])), (mT, .inl (eT, 16384, .inl Tg)), (mS, .inl (eS, 16384, .inl Sg)), (mB, .inl (eB, 16384, .inl Bg))] H := hP
    have hD : va_D A [(mM, .inr (2, [.int (nI 0), .int (nI R), .ref mX, .int (nI ts), .ref mO, .int (nI os), .int (nI (hi - (lo + 1))), .ref mT, .ref mS, .ref mB, .int (nI (off hi - off (lo + 1))), .int (nI hi), .int (nI dr), .int (nI de), .int (nI uw), .int fr, .int to, .int (nI pa)])), (mT, .inl (eT, 16384, .inl Tg)), (mS, .inl (eS, 16384, .inl Sg)), (mB, .inl (eB, 16384, .inl Bg))] := hD
    have hl : lv_has ls 3 [(2, .int (nI k2)), (0, .ref mM)] := hl
    refine lv_iload_n hx hb dM_goes_61 rfl (lv_at hl 0 rfl) ?_
    refine lv_aload_n hx hb dM_goes_62 rfl (lv_at hl 1 rfl) ?_
    refine va_get (D := (dC, dI)) (ci := 2) (v := .int (nI (hi - (lo + 1)))) (C := RM) (T := TM) (N := 18) hx hb hts hi_M hown hK hP 0 rfl rfl 6 (by decide) (hts (.fieldLink RM 36 "PacketStoreModel" "many" "I") (by decide +kernel)) (fun _ h9 => h9) rfl dM_goes_63 ?_
    refine zz_icmp_ge (a := k2) (b := hi - (lo + 1)) (tgt := 103) hx hb dM_goes_66 (by decide) (by omega) (by omega) (fun c66 => ?_) (fun c66 => ?_)
    · exact W.vret hx hb hr (fun t ht hW => ⟨⟨(Tg, Sg, Bg), rfl, ⟨fun j h => hT1 j (by omega), fun j h => hS1 j (by omega), fun q h => hB1 q (by omega)⟩, by rw [ht]; exact hP, va_K.moved hW.alike hK, hD⟩, hS.F ht⟩) hS.2.2 dM_goes_103
    · refine lv_aload_n hx hb dM_goes_69 rfl (lv_at hl 1 rfl) ?_
      refine va_get (D := (dC, dI)) (ci := 2) (v := .ref mT) (C := RM) (T := TM) (N := 18) hx hb hts hi_M hown hK hP 0 rfl rfl 7 (by decide) (hts (.fieldLink RM 16 "PacketStoreModel" "time" "[I") (by decide +kernel)) (fun _ h9 => h9) rfl dM_goes_70 ?_
      refine lv_iload_n hx hb dM_goes_73 rfl (lv_at hl 0 rfl) ?_
      refine lv_aload_n hx hb dM_goes_74 rfl (lv_at hl 1 rfl) ?_
      refine va_get (D := (dC, dI)) (ci := 2) (v := .ref mT) (C := RM) (T := TM) (N := 18) hx hb hts hi_M hown hK hP 0 rfl rfl 7 (by decide) (hts (.fieldLink RM 16 "PacketStoreModel" "time" "[I") (by decide +kernel)) (fun _ h9 => h9) rfl dM_goes_75 ?_
      refine lv_iload_n hx hb dM_goes_78 rfl (lv_at hl 0 rfl) ?_
      refine lv_iconst (v := nI 1) hx hb dM_goes_79 (by decide) ?_
      refine lv_iadd hx hb dM_goes_80 ?_
      refine zz_as (nI (k2 + 1)) (nI_add _ _) ?_
      refine zz_iald hx hb hK hP 1 0 rfl rfl (j := k2 + 1) (by omega) (by omega) dM_goes_81 ?_
      refine zz_as (tm (lo + 1 + k2)) (by rw [hT2 _ (by omega) (by omega), show lo + (k2 + 1) = lo + 1 + k2 by omega]) ?_
      refine zz_iast hx hb hK hP hD hS 1 0 rfl rfl (j := k2) (x := ((tm (lo + 1 + k2)))) (by omega) (by omega) dM_goes_82 (fun H locs hP hD hS => ?_)
      have hP : va_P (dC, dI) vwCl [(mM, .inr (2, [.int (nI 0), .int (nI R), .ref mX, .int (nI ts), .ref mO, .int (nI os), .int (nI (hi - (lo + 1))), .ref mT, .ref mS, .ref mB, .int (nI (off hi - off (lo + 1))), .int (nI hi), .int (nI dr), .int (nI de), .int (nI uw), .int fr, .int to, .int (nI pa)])), (mT, .inl (eT, 16384, .inl (upd Tg k2 ((tm (lo + 1 + k2)))))), (mS, .inl (eS, 16384, .inl Sg)), (mB, .inl (eB, 16384, .inl Bg))] H := hP
      have hD : va_D A [(mM, .inr (2, [.int (nI 0), .int (nI R), .ref mX, .int (nI ts), .ref mO, .int (nI os), .int (nI (hi - (lo + 1))), .ref mT, .ref mS, .ref mB, .int (nI (off hi - off (lo + 1))), .int (nI hi), .int (nI dr), .int (nI de), .int (nI uw), .int fr, .int to, .int (nI pa)])), (mT, .inl (eT, 16384, .inl (upd Tg k2 ((tm (lo + 1 + k2)))))), (mS, .inl (eS, 16384, .inl Sg)), (mB, .inl (eB, 16384, .inl Bg))] := hD
      refine lv_aload_n hx hb dM_goes_83 rfl (lv_at hl 1 rfl) ?_
      refine va_get (D := (dC, dI)) (ci := 2) (v := .ref mS) (C := RM) (T := TM) (N := 18) hx hb hts hi_M hown hK hP 0 rfl rfl 8 (by decide) (hts (.fieldLink RM 20 "PacketStoreModel" "size" "[I") (by decide +kernel)) (fun _ h9 => h9) rfl dM_goes_84 ?_
      refine lv_iload_n hx hb dM_goes_87 rfl (lv_at hl 0 rfl) ?_
      refine lv_aload_n hx hb dM_goes_88 rfl (lv_at hl 1 rfl) ?_
      refine va_get (D := (dC, dI)) (ci := 2) (v := .ref mS) (C := RM) (T := TM) (N := 18) hx hb hts hi_M hown hK hP 0 rfl rfl 8 (by decide) (hts (.fieldLink RM 20 "PacketStoreModel" "size" "[I") (by decide +kernel)) (fun _ h9 => h9) rfl dM_goes_89 ?_
      refine lv_iload_n hx hb dM_goes_92 rfl (lv_at hl 0 rfl) ?_
      refine lv_iconst (v := nI 1) hx hb dM_goes_93 (by decide) ?_
      refine lv_iadd hx hb dM_goes_94 ?_
      refine zz_as (nI (k2 + 1)) (nI_add _ _) ?_
      refine zz_iald hx hb hK hP 2 1 rfl rfl (j := k2 + 1) (by omega) (by omega) dM_goes_95 ?_
      refine zz_as (nI (off (lo + 1 + k2 + 1) - off (lo + 1 + k2))) (by rw [hS2 _ (by omega) (by omega), show lo + (k2 + 1) = lo + 1 + k2 by omega]) ?_
      refine zz_iast hx hb hK hP hD hS 2 1 rfl rfl (j := k2) (x := ((nI (off (lo + 1 + k2 + 1) - off (lo + 1 + k2))))) (by omega) (by omega) dM_goes_96 (fun H locs hP hD hS => ?_)
      have hP : va_P (dC, dI) vwCl [(mM, .inr (2, [.int (nI 0), .int (nI R), .ref mX, .int (nI ts), .ref mO, .int (nI os), .int (nI (hi - (lo + 1))), .ref mT, .ref mS, .ref mB, .int (nI (off hi - off (lo + 1))), .int (nI hi), .int (nI dr), .int (nI de), .int (nI uw), .int fr, .int to, .int (nI pa)])), (mT, .inl (eT, 16384, .inl (upd Tg k2 ((tm (lo + 1 + k2)))))), (mS, .inl (eS, 16384, .inl (upd Sg k2 ((nI (off (lo + 1 + k2 + 1) - off (lo + 1 + k2))))))), (mB, .inl (eB, 16384, .inl Bg))] H := hP
      have hD : va_D A [(mM, .inr (2, [.int (nI 0), .int (nI R), .ref mX, .int (nI ts), .ref mO, .int (nI os), .int (nI (hi - (lo + 1))), .ref mT, .ref mS, .ref mB, .int (nI (off hi - off (lo + 1))), .int (nI hi), .int (nI dr), .int (nI de), .int (nI uw), .int fr, .int to, .int (nI pa)])), (mT, .inl (eT, 16384, .inl (upd Tg k2 ((tm (lo + 1 + k2)))))), (mS, .inl (eS, 16384, .inl (upd Sg k2 ((nI (off (lo + 1 + k2 + 1) - off (lo + 1 + k2))))))), (mB, .inl (eB, 16384, .inl Bg))] := hD
      refine lv_iinc (v := nI (k2 + 1)) (lv' := [(2, .int (nI (k2 + 1))), (0, .ref mM)]) hx hb dM_goes_97 hl (k := 0) rfl (show nI k2 + 1 = nI (k2 + 1) from nI_1 _) (by decide) rfl (fun ls hl => ?_)
      refine lv_goto (tgt := 61) hx hb dM_goes_100 (by decide) ?_
      exact ih (k2 + 1, upd Tg k2 ((tm (lo + 1 + k2))), upd Sg k2 ((nI (off (lo + 1 + k2 + 1) - off (lo + 1 + k2))))) _ _ _ ⟨⟨by show _ + (k2 + 1) = hi - (lo + 1) + 1; omega, by show k2 + 1 ≤ hi - (lo + 1); omega, rm_shift (g := fun j => tm (lo + 1 + j)) (h := fun j => tm (lo + j)) hT1 hT2 rfl, rm_shift (g := fun j => nI (off (lo + 1 + j + 1) - off (lo + 1 + j))) (h := fun j => nI (off (lo + j + 1) - off (lo + j))) hS1 hS2 rfl⟩, hP, hD, hS, lv_sub hl [0, 1] rfl⟩
  · refine lv_aload_n hx hb dM_goes_19 rfl (lv_at hl 1 rfl) ?_
    refine va_get (D := (dC, dI)) (ci := 2) (v := .ref mB) (C := RM) (T := TM) (N := 18) hx hb hts hi_M hown hK hP 0 rfl rfl 9 (by decide) (hts (.fieldLink RM 23 "PacketStoreModel" "bytes" "[B") (by decide +kernel)) (fun _ h9 => h9) rfl dM_goes_20 ?_
    refine lv_iload_n hx hb dM_goes_23 rfl (lv_at hl 0 rfl) ?_
    refine lv_aload_n hx hb dM_goes_24 rfl (lv_at hl 1 rfl) ?_
    refine va_get (D := (dC, dI)) (ci := 2) (v := .ref mB) (C := RM) (T := TM) (N := 18) hx hb hts hi_M hown hK hP 0 rfl rfl 9 (by decide) (hts (.fieldLink RM 23 "PacketStoreModel" "bytes" "[B") (by decide +kernel)) (fun _ h9 => h9) rfl dM_goes_25 ?_
    refine lv_iload_n hx hb dM_goes_28 rfl (lv_at hl 0 rfl) ?_
    refine lv_iload_n hx hb dM_goes_29 rfl (lv_at hl 2 rfl) ?_
    refine lv_iadd hx hb dM_goes_30 ?_
    refine zz_as (nI (k + (off (lo + 1) - off lo))) (nI_add _ _) ?_
    refine zz_bald hx hb hK hP 3 2 rfl rfl (j := k + (off (lo + 1) - off lo)) (by omega) (by omega) dM_goes_31 ?_
    refine zz_as ((bz (off (lo + 1) + k)).toInt8.toInt32) (by rw [hB2 _ (by omega) (by omega), show off lo + (k + (off (lo + 1) - off lo)) = off (lo + 1) + k by omega]) ?_
    refine zz_bast hx hb hK hP hD hS 3 2 rfl rfl (j := k) (x := (((bz (off (lo + 1) + k)).toInt8.toInt32))) (by omega) (by omega) dM_goes_32 (fun H locs hP hD hS => ?_)
    have hP : va_P (dC, dI) vwCl [(mM, .inr (2, [.int (nI 0), .int (nI R), .ref mX, .int (nI ts), .ref mO, .int (nI os), .int (nI (hi - lo)), .ref mT, .ref mS, .ref mB, .int (nI (off hi - off lo)), .int (nI hi), .int (nI dr), .int (nI de), .int (nI uw), .int fr, .int to, .int (nI pa)])), (mT, .inl (eT, 16384, .inl Tm)), (mS, .inl (eS, 16384, .inl Sm)), (mB, .inl (eB, 16384, .inl (upd Bg k ((((bz (off (lo + 1) + k)).toInt8.toInt32)).toInt8.toInt32))))] H := hP
    have hD : va_D A [(mM, .inr (2, [.int (nI 0), .int (nI R), .ref mX, .int (nI ts), .ref mO, .int (nI os), .int (nI (hi - lo)), .ref mT, .ref mS, .ref mB, .int (nI (off hi - off lo)), .int (nI hi), .int (nI dr), .int (nI de), .int (nI uw), .int fr, .int to, .int (nI pa)])), (mT, .inl (eT, 16384, .inl Tm)), (mS, .inl (eS, 16384, .inl Sm)), (mB, .inl (eB, 16384, .inl (upd Bg k ((((bz (off (lo + 1) + k)).toInt8.toInt32)).toInt8.toInt32))))] := hD
    refine lv_iinc (v := nI (k + 1)) (lv' := [(2, .int (nI (k + 1))), (0, .ref mM), (1, .int (nI (off (lo + 1) - off lo)))]) hx hb dM_goes_33 hl (k := 0) rfl (show nI k + 1 = nI (k + 1) from nI_1 _) (by decide) rfl (fun ls hl => ?_)
    refine lv_goto (tgt := 9) hx hb dM_goes_36 (by decide) ?_
    exact ih (k + 1, upd Bg k ((((bz (off (lo + 1) + k)).toInt8.toInt32)).toInt8.toInt32)) _ _ _ ⟨⟨by show n + (k + 1) = off hi - off (lo + 1) + 1; omega, by show k + 1 ≤ off hi - off (lo + 1); omega, rm_shift (g := fun q => (bz (off (lo + 1) + q)).toInt8.toInt32) (h := fun q => (bz (off lo + q)).toInt8.toInt32) hB1 hB2 (zz_i8 _)⟩, hP, hD, hS, lv_sub hl [0, 1, 2] rfl⟩
set_option maxHeartbeats 4000000 in
set_option maxRecDepth 100000 in
/-- model: put(b) -/
theorem c_M_put (l : Launch) (dC : Nat → ClassId) (dI : Nat → Nat → Nat) (mM mX mO mT mS mB R ts os ma us ca dr de uw : Nat) (fr to : Int32) (lk : Nat) (eX : ClassId) (Xm : Nat → Int32) (b : Int32) (hts5 : ts ≤ 512) (hz : Nat) : Met l yM_put wsM_put ({ frames := 0, cells := 0, slots := 0, locals := 0 }) (va_Pc [.ref mM, .int b] (fun U => U.heap.size = hz ∧ va_P (dC, dI) vwCl [(mM, .inr (2, [.int (nI 0), .int (nI R), .ref mX, .int (nI ts), .ref mO, .int (nI os), .int (nI ma), .ref mT, .ref mS, .ref mB, .int (nI us), .int (nI ca), .int (nI dr), .int (nI de), .int (nI uw), .int fr, .int to, .int (nI lk)])), (mX, .inl (eX, 512, .inl Xm))] U.heap ∧ va_K (dC, dI) vwCl [(eX, .byte)] U ∧ va_D (fun _ => True) [(mM, .inr (2, [.int (nI 0), .int (nI R), .ref mX, .int (nI ts), .ref mO, .int (nI os), .int (nI ma), .ref mT, .ref mS, .ref mB, .int (nI us), .int (nI ca), .int (nI dr), .int (nI de), .int (nI uw), .int fr, .int to, .int (nI lk)])), (mX, .inl (eX, 512, .inl Xm))])) (va_Qi (fun (r : Int32) (u : Nat × (Nat → Int32)) => (512 ≤ ts ∧ r = (-1) ∧ u.1 = ts ∧ u.2 = Xm) ∨ (ts < 512 ∧ r = nI (ts + 1) ∧ u.1 = ts + 1 ∧ u.2 = upd Xm ts (b.toInt8.toInt32))) (fun u t => va_P (dC, dI) vwCl [(mM, .inr (2, [.int (nI 0), .int (nI R), .ref mX, .int (nI u.1), .ref mO, .int (nI os), .int (nI ma), .ref mT, .ref mS, .ref mB, .int (nI us), .int (nI ca), .int (nI dr), .int (nI de), .int (nI uw), .int fr, .int to, .int (nI lk)])), (mX, .inl (eX, 512, .inl u.2))] t.heap ∧ va_K (dC, dI) vwCl [(eX, .byte)] t ∧ va_D (va_A [(mM, .inr (2, [.int (nI 0), .int (nI R), .ref mX, .int (nI ts), .ref mO, .int (nI os), .int (nI ma), .ref mT, .ref mS, .ref mB, .int (nI us), .int (nI ca), .int (nI dr), .int (nI de), .int (nI uw), .int fr, .int to, .int (nI lk)])), (mX, .inl (eX, 512, .inl Xm))] hz) [(mM, .inr (2, [.int (nI 0), .int (nI R), .ref mX, .int (nI u.1), .ref mO, .int (nI os), .int (nI ma), .ref mT, .ref mS, .ref mB, .int (nI us), .int (nI ca), .int (nI dr), .int (nI de), .int (nI uw), .int fr, .int to, .int (nI lk)])), (mX, .inl (eX, 512, .inl u.2))]) (va_A [(mM, .inr (2, [.int (nI 0), .int (nI R), .ref mX, .int (nI ts), .ref mO, .int (nI os), .int (nI ma), .ref mT, .ref mS, .ref mB, .int (nI us), .int (nI ca), .int (nI dr), .int (nI de), .int (nI uw), .int fr, .int to, .int (nI lk)])), (mX, .inl (eX, 512, .inl Xm))] hz)) 0 0 (va_A [(mM, .inr (2, [.int (nI 0), .int (nI R), .ref mX, .int (nI ts), .ref mO, .int (nI os), .int (nI ma), .ref mT, .ref mS, .ref mB, .int (nI us), .int (nI ca), .int (nI dr), .int (nI de), .int (nI uw), .int fr, .int to, .int (nI lk)])), (mX, .inl (eX, 512, .inl Xm))] hz) := by
  refine Met.ofW (cc := cM_put) (maxL := 2) (ret := (some .int)) (by decide) rfl ?_
  intro p e s m args below meth c s₁ B hml hv
  obtain ⟨rfl, hsz, hP, hK, hD0⟩ := hv
  have hx := B.exec
  have hb := B.bytes
  have hr := B.returns
  have hts := atoms_spec (ws := wsM_put) B.pre
  have hown : s.vm.findClass RM = some m.cls := findClass_of_methodNamed B.named
  have hlocks := B.notSynchronized
  have hi_M : ∀ w ∈ u_ws RM TM 18, w ∈ wsM_put := by decide +kernel
  subst hsz
  have hD := hD0.self (sz := s.heap.size)
  generalize hAe : va_A [(mM, .inr (2, [.int (nI 0), .int (nI R), .ref mX, .int (nI ts), .ref mO, .int (nI os), .int (nI ma), .ref mT, .ref mS, .ref mB, .int (nI us), .int (nI ca), .int (nI dr), .int (nI de), .int (nI uw), .int fr, .int to, .int (nI lk)])), (mX, .inl (eX, 512, .inl Xm))] s.heap.size = A at hD ⊢
  have hA : ∀ q : Nat, s.heap.size ≤ q → A q := fun q h => by rw [← hAe]; exact Or.inr h
  have hS : va_S A s.heap s.heap [] := va_S.rf
  have hP : va_P (dC, dI) vwCl [(mM, .inr (2, [.int (nI 0), .int (nI R), .ref mX, .int (nI ts), .ref mO, .int (nI os), .int (nI ma), .ref mT, .ref mS, .ref mB, .int (nI us), .int (nI ca), .int (nI dr), .int (nI de), .int (nI uw), .int fr, .int to, .int (nI lk)])), (mX, .inl (eX, 512, .inl Xm))] s.heap := hP
  have hl := lv_entry ([.ref mM, .int b]) (n := 2) (Nat.le_of_ble_eq_true rfl)
  rw [lg_entry_eq]
  generalize (lg_sl ([.ref mM, .int b]) ++ List.replicate (2 - (lg_sl ([.ref mM, .int b])).length) Slot.unset).toArray = ls at hl ⊢
  have hl : lv_has ls 2 [(0, .ref mM), (1, .int b)] := hl
  refine lv_aload_n hx hb dM_put_0 rfl (lv_at hl 0 rfl) ?_
  refine lv_iconst (v := nI 0) hx hb dM_put_1 (by decide) ?_
  refine va_put (D := (dC, dI)) (ci := 2) (v := .int (nI 0)) (ty := .int) (C := RM) (T := TM) (N := 18) hx hb hts hi_M tyM tyM_ok nmM hown hK hP hD hS 0 rfl rfl 0 (by decide) (hts (.fieldLink RM 30 "PacketStoreModel" "thrown" "I") (by decide +kernel)) (fun _ h9 => h9) rfl (by decide +kernel) rfl rfl (Nat.le_of_ble_eq_true rfl) dM_put_2 (fun H locs hP hD hS => ?_)
  have hP : va_P (dC, dI) vwCl [(mM, .inr (2, [.int (nI 0), .int (nI R), .ref mX, .int (nI ts), .ref mO, .int (nI os), .int (nI ma), .ref mT, .ref mS, .ref mB, .int (nI us), .int (nI ca), .int (nI dr), .int (nI de), .int (nI uw), .int fr, .int to, .int (nI lk)])), (mX, .inl (eX, 512, .inl Xm))] H := hP
  have hD : va_D A [(mM, .inr (2, [.int (nI 0), .int (nI R), .ref mX, .int (nI ts), .ref mO, .int (nI os), .int (nI ma), .ref mT, .ref mS, .ref mB, .int (nI us), .int (nI ca), .int (nI dr), .int (nI de), .int (nI uw), .int fr, .int to, .int (nI lk)])), (mX, .inl (eX, 512, .inl Xm))] := hD
  refine lv_aload_n hx hb dM_put_5 rfl (lv_at hl 0 rfl) ?_
  refine va_get (D := (dC, dI)) (ci := 2) (v := .int (nI ts)) (C := RM) (T := TM) (N := 18) hx hb hts hi_M hown hK hP 0 rfl rfl 3 (by decide) (hts (.fieldLink RM 39 "PacketStoreModel" "textSize" "I") (by decide +kernel)) (fun _ h9 => h9) rfl dM_put_6 ?_
  refine lv_sipush (v := nI 512) hx hb dM_put_9 (by decide) ?_
  refine zz_icmp_ne (a := ts) (b := 512) (tgt := 17) hx hb dM_put_12 (by decide) (by omega) (by omega) (fun c12 => ?_) (fun c12 => ?_)
  · refine lv_aload_n hx hb dM_put_17 rfl (lv_at hl 0 rfl) ?_
    refine va_get (D := (dC, dI)) (ci := 2) (v := .ref mX) (C := RM) (T := TM) (N := 18) hx hb hts hi_M hown hK hP 0 rfl rfl 2 (by decide) (hts (.fieldLink RM 7 "PacketStoreModel" "text" "[B") (by decide +kernel)) (fun _ h9 => h9) rfl dM_put_18 ?_
    refine lv_aload_n hx hb dM_put_21 rfl (lv_at hl 0 rfl) ?_
    refine va_get (D := (dC, dI)) (ci := 2) (v := .int (nI ts)) (C := RM) (T := TM) (N := 18) hx hb hts hi_M hown hK hP 0 rfl rfl 3 (by decide) (hts (.fieldLink RM 39 "PacketStoreModel" "textSize" "I") (by decide +kernel)) (fun _ h9 => h9) rfl dM_put_22 ?_
    refine lv_iload_n hx hb dM_put_25 rfl (lv_at hl 1 rfl) ?_
    refine lv_i2b (v := b.toInt8.toInt32) hx hb dM_put_26 rfl ?_
    refine zz_bast hx hb hK hP hD hS 1 0 rfl rfl (j := ts) (x := ((b.toInt8.toInt32))) (by omega) (by omega) dM_put_27 (fun H locs hP hD hS => ?_)
    have hP : va_P (dC, dI) vwCl [(mM, .inr (2, [.int (nI 0), .int (nI R), .ref mX, .int (nI ts), .ref mO, .int (nI os), .int (nI ma), .ref mT, .ref mS, .ref mB, .int (nI us), .int (nI ca), .int (nI dr), .int (nI de), .int (nI uw), .int fr, .int to, .int (nI lk)])), (mX, .inl (eX, 512, .inl (upd Xm ts (((b.toInt8.toInt32)).toInt8.toInt32))))] H := hP
    have hD : va_D A [(mM, .inr (2, [.int (nI 0), .int (nI R), .ref mX, .int (nI ts), .ref mO, .int (nI os), .int (nI ma), .ref mT, .ref mS, .ref mB, .int (nI us), .int (nI ca), .int (nI dr), .int (nI de), .int (nI uw), .int fr, .int to, .int (nI lk)])), (mX, .inl (eX, 512, .inl (upd Xm ts (((b.toInt8.toInt32)).toInt8.toInt32))))] := hD
    rw [zz_i8] at hP hD
    have hP : va_P (dC, dI) vwCl [(mM, .inr (2, [.int (nI 0), .int (nI R), .ref mX, .int (nI ts), .ref mO, .int (nI os), .int (nI ma), .ref mT, .ref mS, .ref mB, .int (nI us), .int (nI ca), .int (nI dr), .int (nI de), .int (nI uw), .int fr, .int to, .int (nI lk)])), (mX, .inl (eX, 512, .inl (upd Xm ts (b.toInt8.toInt32))))] H := hP
    have hD : va_D A [(mM, .inr (2, [.int (nI 0), .int (nI R), .ref mX, .int (nI ts), .ref mO, .int (nI os), .int (nI ma), .ref mT, .ref mS, .ref mB, .int (nI us), .int (nI ca), .int (nI dr), .int (nI de), .int (nI uw), .int fr, .int to, .int (nI lk)])), (mX, .inl (eX, 512, .inl (upd Xm ts (b.toInt8.toInt32))))] := hD
    refine lv_aload_n hx hb dM_put_28 rfl (lv_at hl 0 rfl) ?_
    refine lv_dup hx hb dM_put_29 rfl ?_
    refine va_get (D := (dC, dI)) (ci := 2) (v := .int (nI ts)) (C := RM) (T := TM) (N := 18) hx hb hts hi_M hown hK hP 0 rfl rfl 3 (by decide) (hts (.fieldLink RM 39 "PacketStoreModel" "textSize" "I") (by decide +kernel)) (fun _ h9 => h9) rfl dM_put_30 ?_
    refine lv_iconst (v := nI 1) hx hb dM_put_33 (by decide) ?_
    refine lv_iadd hx hb dM_put_34 ?_
    refine zz_as (nI (ts + 1)) (nI_add _ _) ?_
    refine va_put (D := (dC, dI)) (ci := 2) (v := .int (nI (ts + 1))) (ty := .int) (C := RM) (T := TM) (N := 18) hx hb hts hi_M tyM tyM_ok nmM hown hK hP hD hS 0 rfl rfl 3 (by decide) (hts (.fieldLink RM 39 "PacketStoreModel" "textSize" "I") (by decide +kernel)) (fun _ h9 => h9) rfl (by decide +kernel) rfl rfl (Nat.le_of_ble_eq_true rfl) dM_put_35 (fun H locs hP hD hS => ?_)
    have hP : va_P (dC, dI) vwCl [(mM, .inr (2, [.int (nI 0), .int (nI R), .ref mX, .int (nI (ts + 1)), .ref mO, .int (nI os), .int (nI ma), .ref mT, .ref mS, .ref mB, .int (nI us), .int (nI ca), .int (nI dr), .int (nI de), .int (nI uw), .int fr, .int to, .int (nI lk)])), (mX, .inl (eX, 512, .inl (upd Xm ts (b.toInt8.toInt32))))] H := hP
    have hD : va_D A [(mM, .inr (2, [.int (nI 0), .int (nI R), .ref mX, .int (nI (ts + 1)), .ref mO, .int (nI os), .int (nI ma), .ref mT, .ref mS, .ref mB, .int (nI us), .int (nI ca), .int (nI dr), .int (nI de), .int (nI uw), .int fr, .int to, .int (nI lk)])), (mX, .inl (eX, 512, .inl (upd Xm ts (b.toInt8.toInt32))))] := hD
    refine lv_aload_n hx hb dM_put_38 rfl (lv_at hl 0 rfl) ?_
    refine va_get (D := (dC, dI)) (ci := 2) (v := .int (nI (ts + 1))) (C := RM) (T := TM) (N := 18) hx hb hts hi_M hown hK hP 0 rfl rfl 3 (by decide) (hts (.fieldLink RM 39 "PacketStoreModel" "textSize" "I") (by decide +kernel)) (fun _ h9 => h9) rfl dM_put_39 ?_
    exact W.iret (v := (nI (ts + 1))) hx hb hr (fun t ht hW => ⟨⟨_, (ts + 1, upd Xm ts (b.toInt8.toInt32)), rfl, Or.inr ⟨by omega, rfl, rfl, rfl⟩, by rw [ht]; exact hP, va_K.moved hW.alike hK, hD⟩, hS.F ht⟩) hS.2.2 dM_put_42
  · refine lv_iconst (v := (-1)) hx hb dM_put_15 (by decide) ?_
    exact W.iret (v := ((-1))) hx hb hr (fun t ht hW => ⟨⟨_, (ts, Xm), rfl, Or.inl ⟨by omega, rfl, rfl, rfl⟩, by rw [ht]; exact hP, va_K.moved hW.alike hK, hD⟩, hS.F ht⟩) hS.2.2 dM_put_16
set_option maxHeartbeats 4000000 in
set_option maxRecDepth 100000 in
/-- model: keep, no text -/
theorem c_M_keep_none (l : Launch) (dC : Nat → ClassId) (dI : Nat → Nat → Nat) (mM mX mO mT mS mB R ts os ma us ca dr de uw : Nat) (fr to : Int32) (lk : Nat) (tim : Int32) (h0 : ts = 0) (hz : Nat) : Met l yM_keep wsM_keep ({ frames := 0, cells := 0, slots := 0, locals := 0 }) (va_Pc [.ref mM, .int tim] (fun U => U.heap.size = hz ∧ va_P (dC, dI) vwCl [(mM, .inr (2, [.int (nI 0), .int (nI R), .ref mX, .int (nI ts), .ref mO, .int (nI os), .int (nI ma), .ref mT, .ref mS, .ref mB, .int (nI us), .int (nI ca), .int (nI dr), .int (nI de), .int (nI uw), .int fr, .int to, .int (nI lk)]))] U.heap ∧ va_K (dC, dI) vwCl [] U ∧ va_D (fun _ => True) [(mM, .inr (2, [.int (nI 0), .int (nI R), .ref mX, .int (nI ts), .ref mO, .int (nI os), .int (nI ma), .ref mT, .ref mS, .ref mB, .int (nI us), .int (nI ca), .int (nI dr), .int (nI de), .int (nI uw), .int fr, .int to, .int (nI lk)]))])) (va_Qi (fun (r : Int32) (u : Unit) => r = (-1)) (fun u t => va_P (dC, dI) vwCl [(mM, .inr (2, [.int (nI 0), .int (nI R), .ref mX, .int (nI 0), .ref mO, .int (nI os), .int (nI ma), .ref mT, .ref mS, .ref mB, .int (nI us), .int (nI ca), .int (nI dr), .int (nI de), .int (nI uw), .int fr, .int to, .int (nI lk)]))] t.heap ∧ va_K (dC, dI) vwCl [] t ∧ va_D (va_A [(mM, .inr (2, [.int (nI 0), .int (nI R), .ref mX, .int (nI ts), .ref mO, .int (nI os), .int (nI ma), .ref mT, .ref mS, .ref mB, .int (nI us), .int (nI ca), .int (nI dr), .int (nI de), .int (nI uw), .int fr, .int to, .int (nI lk)]))] hz) [(mM, .inr (2, [.int (nI 0), .int (nI R), .ref mX, .int (nI 0), .ref mO, .int (nI os), .int (nI ma), .ref mT, .ref mS, .ref mB, .int (nI us), .int (nI ca), .int (nI dr), .int (nI de), .int (nI uw), .int fr, .int to, .int (nI lk)]))]) (va_A [(mM, .inr (2, [.int (nI 0), .int (nI R), .ref mX, .int (nI ts), .ref mO, .int (nI os), .int (nI ma), .ref mT, .ref mS, .ref mB, .int (nI us), .int (nI ca), .int (nI dr), .int (nI de), .int (nI uw), .int fr, .int to, .int (nI lk)]))] hz)) 0 0 (va_A [(mM, .inr (2, [.int (nI 0), .int (nI R), .ref mX, .int (nI ts), .ref mO, .int (nI os), .int (nI ma), .ref mT, .ref mS, .ref mB, .int (nI us), .int (nI ca), .int (nI dr), .int (nI de), .int (nI uw), .int fr, .int to, .int (nI lk)]))] hz) := by
  refine Met.ofW (cc := cM_keep) (maxL := 5) (ret := (some .int)) (by decide) rfl ?_
  intro p e s m args below meth c s₁ B hml hv
  obtain ⟨rfl, hsz, hP, hK, hD0⟩ := hv
  have hx := B.exec
  have hb := B.bytes
  have hr := B.returns
  have hts := atoms_spec (ws := wsM_keep) B.pre
  have hown : s.vm.findClass RM = some m.cls := findClass_of_methodNamed B.named
  have hlocks := B.notSynchronized
  have hi_M : ∀ w ∈ u_ws RM TM 18, w ∈ wsM_keep := by decide +kernel
  subst hsz
  have hD := hD0.self (sz := s.heap.size)
  generalize hAe : va_A [(mM, .inr (2, [.int (nI 0), .int (nI R), .ref mX, .int (nI ts), .ref mO, .int (nI os), .int (nI ma), .ref mT, .ref mS, .ref mB, .int (nI us), .int (nI ca), .int (nI dr), .int (nI de), .int (nI uw), .int fr, .int to, .int (nI lk)]))] s.heap.size = A at hD ⊢
  have hA : ∀ q : Nat, s.heap.size ≤ q → A q := fun q h => by rw [← hAe]; exact Or.inr h
  have hS : va_S A s.heap s.heap [] := va_S.rf
  have hP : va_P (dC, dI) vwCl [(mM, .inr (2, [.int (nI 0), .int (nI R), .ref mX, .int (nI ts), .ref mO, .int (nI os), .int (nI ma), .ref mT, .ref mS, .ref mB, .int (nI us), .int (nI ca), .int (nI dr), .int (nI de), .int (nI uw), .int fr, .int to, .int (nI lk)]))] s.heap := hP
  have hl := lv_entry ([.ref mM, .int tim]) (n := 5) (Nat.le_of_ble_eq_true rfl)
  rw [lg_entry_eq]
  generalize (lg_sl ([.ref mM, .int tim]) ++ List.replicate (5 - (lg_sl ([.ref mM, .int tim])).length) Slot.unset).toArray = ls at hl ⊢
  have hl : lv_has ls 5 [(0, .ref mM), (1, .int tim)] := hl
  refine lv_aload_n hx hb dM_keep_0 rfl (lv_at hl 0 rfl) ?_
  refine lv_iconst (v := nI 0) hx hb dM_keep_1 (by decide) ?_
  refine va_put (D := (dC, dI)) (ci := 2) (v := .int (nI 0)) (ty := .int) (C := RM) (T := TM) (N := 18) hx hb hts hi_M tyM tyM_ok nmM hown hK hP hD hS 0 rfl rfl 0 (by decide) (hts (.fieldLink RM 30 "PacketStoreModel" "thrown" "I") (by decide +kernel)) (fun _ h9 => h9) rfl (by decide +kernel) rfl rfl (Nat.le_of_ble_eq_true rfl) dM_keep_2 (fun H locs hP hD hS => ?_)
  have hP : va_P (dC, dI) vwCl [(mM, .inr (2, [.int (nI 0), .int (nI R), .ref mX, .int (nI ts), .ref mO, .int (nI os), .int (nI ma), .ref mT, .ref mS, .ref mB, .int (nI us), .int (nI ca), .int (nI dr), .int (nI de), .int (nI uw), .int fr, .int to, .int (nI lk)]))] H := hP
  have hD : va_D A [(mM, .inr (2, [.int (nI 0), .int (nI R), .ref mX, .int (nI ts), .ref mO, .int (nI os), .int (nI ma), .ref mT, .ref mS, .ref mB, .int (nI us), .int (nI ca), .int (nI dr), .int (nI de), .int (nI uw), .int fr, .int to, .int (nI lk)]))] := hD
  refine lv_aload_n hx hb dM_keep_5 rfl (lv_at hl 0 rfl) ?_
  refine va_get (D := (dC, dI)) (ci := 2) (v := .int (nI ts)) (C := RM) (T := TM) (N := 18) hx hb hts hi_M hown hK hP 0 rfl rfl 3 (by decide) (hts (.fieldLink RM 39 "PacketStoreModel" "textSize" "I") (by decide +kernel)) (fun _ h9 => h9) rfl dM_keep_6 ?_
  refine lv_istore_n (lv' := [(2, .int (nI ts)), (0, .ref mM), (1, .int tim)]) hx hb dM_keep_9 rfl hl (by decide) rfl (fun ls hl => ?_)
  refine lv_aload_n hx hb dM_keep_10 rfl (lv_at hl 1 rfl) ?_
  refine lv_iconst (v := nI 0) hx hb dM_keep_11 (by decide) ?_
  refine va_put (D := (dC, dI)) (ci := 2) (v := .int (nI 0)) (ty := .int) (C := RM) (T := TM) (N := 18) hx hb hts hi_M tyM tyM_ok nmM hown hK hP hD hS 0 rfl rfl 3 (by decide) (hts (.fieldLink RM 39 "PacketStoreModel" "textSize" "I") (by decide +kernel)) (fun _ h9 => h9) rfl (by decide +kernel) rfl rfl (Nat.le_of_ble_eq_true rfl) dM_keep_12 (fun H locs hP hD hS => ?_)
  have hP : va_P (dC, dI) vwCl [(mM, .inr (2, [.int (nI 0), .int (nI R), .ref mX, .int (nI 0), .ref mO, .int (nI os), .int (nI ma), .ref mT, .ref mS, .ref mB, .int (nI us), .int (nI ca), .int (nI dr), .int (nI de), .int (nI uw), .int fr, .int to, .int (nI lk)]))] H := hP
  have hD : va_D A [(mM, .inr (2, [.int (nI 0), .int (nI R), .ref mX, .int (nI 0), .ref mO, .int (nI os), .int (nI ma), .ref mT, .ref mS, .ref mB, .int (nI us), .int (nI ca), .int (nI dr), .int (nI de), .int (nI uw), .int fr, .int to, .int (nI lk)]))] := hD
  refine lv_iload_n hx hb dM_keep_15 rfl (lv_at hl 0 rfl) ?_
  refine zz_if_ne (a := ts) (tgt := 21) hx hb dM_keep_16 (by decide) (by omega) (fun c16 => ?_) (fun c16 => ?_)
  · exact absurd h0 c16
  · refine lv_iconst (v := (-1)) hx hb dM_keep_19 (by decide) ?_
    exact W.iret (v := ((-1))) hx hb hr (fun t ht hW => ⟨⟨_, (), rfl, rfl, by rw [ht]; exact hP, va_K.moved hW.alike hK, hD⟩, hS.F ht⟩) hS.2.2 dM_keep_20
set_option maxHeartbeats 4000000 in
set_option maxRecDepth 100000 in
/-- model: keep, too much text -/
theorem c_M_keep_full (l : Launch) (dC : Nat → ClassId) (dI : Nat → Nat → Nat) (mM mX mO mT mS mB R ts os ma us ca dr de uw : Nat) (fr to : Int32) (lk : Nat) (tim : Int32) (h0 : R < ts) (h5 : ts ≤ 512) (hz : Nat) : Met l yM_keep wsM_keep ({ frames := 0, cells := 0, slots := 0, locals := 0 }) (va_Pc [.ref mM, .int tim] (fun U => U.heap.size = hz ∧ va_P (dC, dI) vwCl [(mM, .inr (2, [.int (nI 0), .int (nI R), .ref mX, .int (nI ts), .ref mO, .int (nI os), .int (nI ma), .ref mT, .ref mS, .ref mB, .int (nI us), .int (nI ca), .int (nI dr), .int (nI de), .int (nI uw), .int fr, .int to, .int (nI lk)]))] U.heap ∧ va_K (dC, dI) vwCl [] U ∧ va_D (fun _ => True) [(mM, .inr (2, [.int (nI 0), .int (nI R), .ref mX, .int (nI ts), .ref mO, .int (nI os), .int (nI ma), .ref mT, .ref mS, .ref mB, .int (nI us), .int (nI ca), .int (nI dr), .int (nI de), .int (nI uw), .int fr, .int to, .int (nI lk)]))])) (va_Qi (fun (r : Int32) (u : Unit) => r = (-2)) (fun u t => va_P (dC, dI) vwCl [(mM, .inr (2, [.int (nI 0), .int (nI R), .ref mX, .int (nI 0), .ref mO, .int (nI os), .int (nI ma), .ref mT, .ref mS, .ref mB, .int (nI us), .int (nI ca), .int (nI dr), .int (nI de), .int (nI uw), .int fr, .int to, .int (nI lk)]))] t.heap ∧ va_K (dC, dI) vwCl [] t ∧ va_D (va_A [(mM, .inr (2, [.int (nI 0), .int (nI R), .ref mX, .int (nI ts), .ref mO, .int (nI os), .int (nI ma), .ref mT, .ref mS, .ref mB, .int (nI us), .int (nI ca), .int (nI dr), .int (nI de), .int (nI uw), .int fr, .int to, .int (nI lk)]))] hz) [(mM, .inr (2, [.int (nI 0), .int (nI R), .ref mX, .int (nI 0), .ref mO, .int (nI os), .int (nI ma), .ref mT, .ref mS, .ref mB, .int (nI us), .int (nI ca), .int (nI dr), .int (nI de), .int (nI uw), .int fr, .int to, .int (nI lk)]))]) (va_A [(mM, .inr (2, [.int (nI 0), .int (nI R), .ref mX, .int (nI ts), .ref mO, .int (nI os), .int (nI ma), .ref mT, .ref mS, .ref mB, .int (nI us), .int (nI ca), .int (nI dr), .int (nI de), .int (nI uw), .int fr, .int to, .int (nI lk)]))] hz)) 0 0 (va_A [(mM, .inr (2, [.int (nI 0), .int (nI R), .ref mX, .int (nI ts), .ref mO, .int (nI os), .int (nI ma), .ref mT, .ref mS, .ref mB, .int (nI us), .int (nI ca), .int (nI dr), .int (nI de), .int (nI uw), .int fr, .int to, .int (nI lk)]))] hz) := by
  refine Met.ofW (cc := cM_keep) (maxL := 5) (ret := (some .int)) (by decide) rfl ?_
  intro p e s m args below meth c s₁ B hml hv
  obtain ⟨rfl, hsz, hP, hK, hD0⟩ := hv
  have hx := B.exec
  have hb := B.bytes
  have hr := B.returns
  have hts := atoms_spec (ws := wsM_keep) B.pre
  have hown : s.vm.findClass RM = some m.cls := findClass_of_methodNamed B.named
  have hlocks := B.notSynchronized
  have hi_M : ∀ w ∈ u_ws RM TM 18, w ∈ wsM_keep := by decide +kernel
  subst hsz
  have hD := hD0.self (sz := s.heap.size)
  generalize hAe : va_A [(mM, .inr (2, [.int (nI 0), .int (nI R), .ref mX, .int (nI ts), .ref mO, .int (nI os), .int (nI ma), .ref mT, .ref mS, .ref mB, .int (nI us), .int (nI ca), .int (nI dr), .int (nI de), .int (nI uw), .int fr, .int to, .int (nI lk)]))] s.heap.size = A at hD ⊢
  have hA : ∀ q : Nat, s.heap.size ≤ q → A q := fun q h => by rw [← hAe]; exact Or.inr h
  have hS : va_S A s.heap s.heap [] := va_S.rf
  have hP : va_P (dC, dI) vwCl [(mM, .inr (2, [.int (nI 0), .int (nI R), .ref mX, .int (nI ts), .ref mO, .int (nI os), .int (nI ma), .ref mT, .ref mS, .ref mB, .int (nI us), .int (nI ca), .int (nI dr), .int (nI de), .int (nI uw), .int fr, .int to, .int (nI lk)]))] s.heap := hP
  have hl := lv_entry ([.ref mM, .int tim]) (n := 5) (Nat.le_of_ble_eq_true rfl)
  rw [lg_entry_eq]
  generalize (lg_sl ([.ref mM, .int tim]) ++ List.replicate (5 - (lg_sl ([.ref mM, .int tim])).length) Slot.unset).toArray = ls at hl ⊢
  have hl : lv_has ls 5 [(0, .ref mM), (1, .int tim)] := hl
  refine lv_aload_n hx hb dM_keep_0 rfl (lv_at hl 0 rfl) ?_
  refine lv_iconst (v := nI 0) hx hb dM_keep_1 (by decide) ?_
  refine va_put (D := (dC, dI)) (ci := 2) (v := .int (nI 0)) (ty := .int) (C := RM) (T := TM) (N := 18) hx hb hts hi_M tyM tyM_ok nmM hown hK hP hD hS 0 rfl rfl 0 (by decide) (hts (.fieldLink RM 30 "PacketStoreModel" "thrown" "I") (by decide +kernel)) (fun _ h9 => h9) rfl (by decide +kernel) rfl rfl (Nat.le_of_ble_eq_true rfl) dM_keep_2 (fun H locs hP hD hS => ?_)
  have hP : va_P (dC, dI) vwCl [(mM, .inr (2, [.int (nI 0), .int (nI R), .ref mX, .int (nI ts), .ref mO, .int (nI os), .int (nI ma), .ref mT, .ref mS, .ref mB, .int (nI us), .int (nI ca), .int (nI dr), .int (nI de), .int (nI uw), .int fr, .int to, .int (nI lk)]))] H := hP
  have hD : va_D A [(mM, .inr (2, [.int (nI 0), .int (nI R), .ref mX, .int (nI ts), .ref mO, .int (nI os), .int (nI ma), .ref mT, .ref mS, .ref mB, .int (nI us), .int (nI ca), .int (nI dr), .int (nI de), .int (nI uw), .int fr, .int to, .int (nI lk)]))] := hD
  refine lv_aload_n hx hb dM_keep_5 rfl (lv_at hl 0 rfl) ?_
  refine va_get (D := (dC, dI)) (ci := 2) (v := .int (nI ts)) (C := RM) (T := TM) (N := 18) hx hb hts hi_M hown hK hP 0 rfl rfl 3 (by decide) (hts (.fieldLink RM 39 "PacketStoreModel" "textSize" "I") (by decide +kernel)) (fun _ h9 => h9) rfl dM_keep_6 ?_
  refine lv_istore_n (lv' := [(2, .int (nI ts)), (0, .ref mM), (1, .int tim)]) hx hb dM_keep_9 rfl hl (by decide) rfl (fun ls hl => ?_)
  refine lv_aload_n hx hb dM_keep_10 rfl (lv_at hl 1 rfl) ?_
  refine lv_iconst (v := nI 0) hx hb dM_keep_11 (by decide) ?_
  refine va_put (D := (dC, dI)) (ci := 2) (v := .int (nI 0)) (ty := .int) (C := RM) (T := TM) (N := 18) hx hb hts hi_M tyM tyM_ok nmM hown hK hP hD hS 0 rfl rfl 3 (by decide) (hts (.fieldLink RM 39 "PacketStoreModel" "textSize" "I") (by decide +kernel)) (fun _ h9 => h9) rfl (by decide +kernel) rfl rfl (Nat.le_of_ble_eq_true rfl) dM_keep_12 (fun H locs hP hD hS => ?_)
  have hP : va_P (dC, dI) vwCl [(mM, .inr (2, [.int (nI 0), .int (nI R), .ref mX, .int (nI 0), .ref mO, .int (nI os), .int (nI ma), .ref mT, .ref mS, .ref mB, .int (nI us), .int (nI ca), .int (nI dr), .int (nI de), .int (nI uw), .int fr, .int to, .int (nI lk)]))] H := hP
  have hD : va_D A [(mM, .inr (2, [.int (nI 0), .int (nI R), .ref mX, .int (nI 0), .ref mO, .int (nI os), .int (nI ma), .ref mT, .ref mS, .ref mB, .int (nI us), .int (nI ca), .int (nI dr), .int (nI de), .int (nI uw), .int fr, .int to, .int (nI lk)]))] := hD
  refine lv_iload_n hx hb dM_keep_15 rfl (lv_at hl 0 rfl) ?_
  refine zz_if_ne (a := ts) (tgt := 21) hx hb dM_keep_16 (by decide) (by omega) (fun c16 => ?_) (fun c16 => ?_)
  · refine lv_iload_n hx hb dM_keep_21 rfl (lv_at hl 0 rfl) ?_
    refine lv_aload_n hx hb dM_keep_22 rfl (lv_at hl 1 rfl) ?_
    refine va_get (D := (dC, dI)) (ci := 2) (v := .int (nI R)) (C := RM) (T := TM) (N := 18) hx hb hts hi_M hown hK hP 0 rfl rfl 1 (by decide) (hts (.fieldLink RM 26 "PacketStoreModel" "room" "I") (by decide +kernel)) (fun _ h9 => h9) rfl dM_keep_23 ?_
    refine zz_icmp_le (a := ts) (b := R) (tgt := 32) hx hb dM_keep_26 (by decide) (by omega) (by omega) (fun c26 => ?_) (fun c26 => ?_)
    · exact absurd c26 (by omega)
    · refine lv_bipush (v := (-2)) hx hb dM_keep_29 (by decide) ?_
      exact W.iret (v := ((-2))) hx hb hr (fun t ht hW => ⟨⟨_, (), rfl, rfl, by rw [ht]; exact hP, va_K.moved hW.alike hK, hD⟩, hS.F ht⟩) hS.2.2 dM_keep_31
  · exact absurd c16 (by omega)
theorem zz_addB3 {f g : Nat → Int32} {b j : Nat} {x : Int32} (h : ∀ t, t < j → f (b + t) = g t) (hx : x = g j) : ∀ t, t < j + 1 → upd f (b + j) x (b + t) = g t := by
  intro t ht
  by_cases q : t = j
  · rw [q, pk_us, hx]
  · rw [pk_un (by omega)]
    exact h t (by omega)
set_option maxHeartbeats 4000000 in
set_option maxRecDepth 100000 in
/-- model: keep -/
theorem c_M_keep_ok (l : Launch) (dC : Nat → ClassId) (dI : Nat → Nat → Nat) (mM mX mO mT mS mB R lo hi : Nat) (off : Nat → Nat) (ts os dr de uw : Nat) (fr to : Int32) (pa : Nat) (eX eT eS eB : ClassId) (Xm Tm Sm Bm tm bz tz : Nat → Int32) (tim : Int32) (hok : rg_ok R lo hi off) (hrm : rm_rep lo hi off tm bz Bm Sm Tm) (h1 : 1 ≤ ts) (h2 : ts ≤ R) (h5 : ts ≤ 512) (htx : ∀ t, t < ts → Xm t = (tz t).toInt8.toInt32) (hz : Nat) : Met l yM_keep wsM_keep ({ frames := 1, cells := 0, slots := 0, locals := 22 }) (va_Pc [.ref mM, .int tim] (fun U => U.heap.size = hz ∧ va_P (dC, dI) vwCl [(mM, .inr (2, [.int (nI 0), .int (nI R), .ref mX, .int (nI ts), .ref mO, .int (nI os), .int (nI (hi - lo)), .ref mT, .ref mS, .ref mB, .int (nI (off hi - off lo)), .int (nI hi), .int (nI dr), .int (nI de), .int (nI uw), .int fr, .int to, .int (nI pa)])), (mX, .inl (eX, 512, .inl Xm)), (mT, .inl (eT, 16384, .inl Tm)), (mS, .inl (eS, 16384, .inl Sm)), (mB, .inl (eB, 16384, .inl Bm))] U.heap ∧ va_K (dC, dI) vwCl [(eX, .byte), (eT, .int), (eS, .int), (eB, .byte)] U ∧ va_D (fun _ => True) [(mM, .inr (2, [.int (nI 0), .int (nI R), .ref mX, .int (nI ts), .ref mO, .int (nI os), .int (nI (hi - lo)), .ref mT, .ref mS, .ref mB, .int (nI (off hi - off lo)), .int (nI hi), .int (nI dr), .int (nI de), .int (nI uw), .int fr, .int to, .int (nI pa)])), (mX, .inl (eX, 512, .inl Xm)), (mT, .inl (eT, 16384, .inl Tm)), (mS, .inl (eS, 16384, .inl Sm)), (mB, .inl (eB, 16384, .inl Bm))])) (va_Qi (fun (r : Int32) (u : Nat × (Nat → Int32) × (Nat → Int32) × (Nat → Int32)) => r = nI (u.1 - lo) ∧ lo ≤ u.1 ∧ u.1 ≤ hi ∧ off hi - off u.1 + ts ≤ R ∧ (∀ k, lo ≤ k → k < u.1 → R < off hi - off k + ts) ∧ rm_rep u.1 (hi + 1) (zu off (hi + 1) (off hi + ts)) (zu tm hi tim) (zcat bz (off hi) tz) u.2.2.2 u.2.2.1 u.2.1) (fun u t => va_P (dC, dI) vwCl [(mM, .inr (2, [.int (nI 0), .int (nI R), .ref mX, .int (nI 0), .ref mO, .int (nI os), .int (nI (hi + 1 - u.1)), .ref mT, .ref mS, .ref mB, .int (nI (off hi + ts - off u.1)), .int (nI (hi + 1)), .int (nI (dr + (u.1 - lo))), .int (nI de), .int (nI uw), .int fr, .int to, .int (nI pa)])), (mX, .inl (eX, 512, .inl Xm)), (mT, .inl (eT, 16384, .inl u.2.1)), (mS, .inl (eS, 16384, .inl u.2.2.1)), (mB, .inl (eB, 16384, .inl u.2.2.2))] t.heap ∧ va_K (dC, dI) vwCl [(eX, .byte), (eT, .int), (eS, .int), (eB, .byte)] t ∧ va_D (va_A [(mM, .inr (2, [.int (nI 0), .int (nI R), .ref mX, .int (nI ts), .ref mO, .int (nI os), .int (nI (hi - lo)), .ref mT, .ref mS, .ref mB, .int (nI (off hi - off lo)), .int (nI hi), .int (nI dr), .int (nI de), .int (nI uw), .int fr, .int to, .int (nI pa)])), (mX, .inl (eX, 512, .inl Xm)), (mT, .inl (eT, 16384, .inl Tm)), (mS, .inl (eS, 16384, .inl Sm)), (mB, .inl (eB, 16384, .inl Bm))] hz) [(mM, .inr (2, [.int (nI 0), .int (nI R), .ref mX, .int (nI 0), .ref mO, .int (nI os), .int (nI (hi + 1 - u.1)), .ref mT, .ref mS, .ref mB, .int (nI (off hi + ts - off u.1)), .int (nI (hi + 1)), .int (nI (dr + (u.1 - lo))), .int (nI de), .int (nI uw), .int fr, .int to, .int (nI pa)])), (mX, .inl (eX, 512, .inl Xm)), (mT, .inl (eT, 16384, .inl u.2.1)), (mS, .inl (eS, 16384, .inl u.2.2.1)), (mB, .inl (eB, 16384, .inl u.2.2.2))]) (va_A [(mM, .inr (2, [.int (nI 0), .int (nI R), .ref mX, .int (nI ts), .ref mO, .int (nI os), .int (nI (hi - lo)), .ref mT, .ref mS, .ref mB, .int (nI (off hi - off lo)), .int (nI hi), .int (nI dr), .int (nI de), .int (nI uw), .int fr, .int to, .int (nI pa)])), (mX, .inl (eX, 512, .inl Xm)), (mT, .inl (eT, 16384, .inl Tm)), (mS, .inl (eS, 16384, .inl Sm)), (mB, .inl (eB, 16384, .inl Bm))] hz)) 0 0 (va_A [(mM, .inr (2, [.int (nI 0), .int (nI R), .ref mX, .int (nI ts), .ref mO, .int (nI os), .int (nI (hi - lo)), .ref mT, .ref mS, .ref mB, .int (nI (off hi - off lo)), .int (nI hi), .int (nI dr), .int (nI de), .int (nI uw), .int fr, .int to, .int (nI pa)])), (mX, .inl (eX, 512, .inl Xm)), (mT, .inl (eT, 16384, .inl Tm)), (mS, .inl (eS, 16384, .inl Sm)), (mB, .inl (eB, 16384, .inl Bm))] hz) := by
  refine Met.ofW (cc := cM_keep) (maxL := 5) (ret := (some .int)) (by decide) rfl ?_
  intro p e s m args below meth c s₁ B hml hv
  obtain ⟨rfl, hsz, hP, hK, hD0⟩ := hv
  have hx := B.exec
  have hb := B.bytes
  have hr := B.returns
  have hts := atoms_spec (ws := wsM_keep) B.pre
  have hown : s.vm.findClass RM = some m.cls := findClass_of_methodNamed B.named
  have hlocks := B.notSynchronized
  have hi_M : ∀ w ∈ u_ws RM TM 18, w ∈ wsM_keep := by decide +kernel
  subst hsz
  have hD := hD0.self (sz := s.heap.size)
  generalize hAe : va_A [(mM, .inr (2, [.int (nI 0), .int (nI R), .ref mX, .int (nI ts), .ref mO, .int (nI os), .int (nI (hi - lo)), .ref mT, .ref mS, .ref mB, .int (nI (off hi - off lo)), .int (nI hi), .int (nI dr), .int (nI de), .int (nI uw), .int fr, .int to, .int (nI pa)])), (mX, .inl (eX, 512, .inl Xm)), (mT, .inl (eT, 16384, .inl Tm)), (mS, .inl (eS, 16384, .inl Sm)), (mB, .inl (eB, 16384, .inl Bm))] s.heap.size = A at hD ⊢
  have hA : ∀ q : Nat, s.heap.size ≤ q → A q := fun q h => by rw [← hAe]; exact Or.inr h
  have hS : va_S A s.heap s.heap [] := va_S.rf
  have hP : va_P (dC, dI) vwCl [(mM, .inr (2, [.int (nI 0), .int (nI R), .ref mX, .int (nI ts), .ref mO, .int (nI os), .int (nI (hi - lo)), .ref mT, .ref mS, .ref mB, .int (nI (off hi - off lo)), .int (nI hi), .int (nI dr), .int (nI de), .int (nI uw), .int fr, .int to, .int (nI pa)])), (mX, .inl (eX, 512, .inl Xm)), (mT, .inl (eT, 16384, .inl Tm)), (mS, .inl (eS, 16384, .inl Sm)), (mB, .inl (eB, 16384, .inl Bm))] s.heap := hP
  have hl := lv_entry ([.ref mM, .int tim]) (n := 5) (Nat.le_of_ble_eq_true rfl)
  rw [lg_entry_eq]
  generalize (lg_sl ([.ref mM, .int tim]) ++ List.replicate (5 - (lg_sl ([.ref mM, .int tim])).length) Slot.unset).toArray = ls at hl ⊢
  have hl : lv_has ls 5 [(0, .ref mM), (1, .int tim)] := hl
  have hRR := hok.1
  have hll := hok.2.1
  have hcap := hok.2.2.1
  have hgap := hok.gap (Nat.le_refl lo) hll (Nat.le_refl hi)
  refine lv_aload_n hx hb dM_keep_0 rfl (lv_at hl 0 rfl) ?_
  refine lv_iconst (v := nI 0) hx hb dM_keep_1 (by decide) ?_
  refine va_put (D := (dC, dI)) (ci := 2) (v := .int (nI 0)) (ty := .int) (C := RM) (T := TM) (N := 18) hx hb hts hi_M tyM tyM_ok nmM hown hK hP hD hS 0 rfl rfl 0 (by decide) (hts (.fieldLink RM 30 "PacketStoreModel" "thrown" "I") (by decide +kernel)) (fun _ h9 => h9) rfl (by decide +kernel) rfl rfl (Nat.le_of_ble_eq_true rfl) dM_keep_2 (fun H locs hP hD hS => ?_)
  have hP : va_P (dC, dI) vwCl [(mM, .inr (2, [.int (nI 0), .int (nI R), .ref mX, .int (nI ts), .ref mO, .int (nI os), .int (nI (hi - lo)), .ref mT, .ref mS, .ref mB, .int (nI (off hi - off lo)), .int (nI hi), .int (nI dr), .int (nI de), .int (nI uw), .int fr, .int to, .int (nI pa)])), (mX, .inl (eX, 512, .inl Xm)), (mT, .inl (eT, 16384, .inl Tm)), (mS, .inl (eS, 16384, .inl Sm)), (mB, .inl (eB, 16384, .inl Bm))] H := hP
  have hD : va_D A [(mM, .inr (2, [.int (nI 0), .int (nI R), .ref mX, .int (nI ts), .ref mO, .int (nI os), .int (nI (hi - lo)), .ref mT, .ref mS, .ref mB, .int (nI (off hi - off lo)), .int (nI hi), .int (nI dr), .int (nI de), .int (nI uw), .int fr, .int to, .int (nI pa)])), (mX, .inl (eX, 512, .inl Xm)), (mT, .inl (eT, 16384, .inl Tm)), (mS, .inl (eS, 16384, .inl Sm)), (mB, .inl (eB, 16384, .inl Bm))] := hD
  refine lv_aload_n hx hb dM_keep_5 rfl (lv_at hl 0 rfl) ?_
  refine va_get (D := (dC, dI)) (ci := 2) (v := .int (nI ts)) (C := RM) (T := TM) (N := 18) hx hb hts hi_M hown hK hP 0 rfl rfl 3 (by decide) (hts (.fieldLink RM 39 "PacketStoreModel" "textSize" "I") (by decide +kernel)) (fun _ h9 => h9) rfl dM_keep_6 ?_
  refine lv_istore_n (lv' := [(2, .int (nI ts)), (0, .ref mM), (1, .int tim)]) hx hb dM_keep_9 rfl hl (by decide) rfl (fun ls hl => ?_)
  refine lv_aload_n hx hb dM_keep_10 rfl (lv_at hl 1 rfl) ?_
  refine lv_iconst (v := nI 0) hx hb dM_keep_11 (by decide) ?_
  refine va_put (D := (dC, dI)) (ci := 2) (v := .int (nI 0)) (ty := .int) (C := RM) (T := TM) (N := 18) hx hb hts hi_M tyM tyM_ok nmM hown hK hP hD hS 0 rfl rfl 3 (by decide) (hts (.fieldLink RM 39 "PacketStoreModel" "textSize" "I") (by decide +kernel)) (fun _ h9 => h9) rfl (by decide +kernel) rfl rfl (Nat.le_of_ble_eq_true rfl) dM_keep_12 (fun H locs hP hD hS => ?_)
  have hP : va_P (dC, dI) vwCl [(mM, .inr (2, [.int (nI 0), .int (nI R), .ref mX, .int (nI 0), .ref mO, .int (nI os), .int (nI (hi - lo)), .ref mT, .ref mS, .ref mB, .int (nI (off hi - off lo)), .int (nI hi), .int (nI dr), .int (nI de), .int (nI uw), .int fr, .int to, .int (nI pa)])), (mX, .inl (eX, 512, .inl Xm)), (mT, .inl (eT, 16384, .inl Tm)), (mS, .inl (eS, 16384, .inl Sm)), (mB, .inl (eB, 16384, .inl Bm))] H := hP
  have hD : va_D A [(mM, .inr (2, [.int (nI 0), .int (nI R), .ref mX, .int (nI 0), .ref mO, .int (nI os), .int (nI (hi - lo)), .ref mT, .ref mS, .ref mB, .int (nI (off hi - off lo)), .int (nI hi), .int (nI dr), .int (nI de), .int (nI uw), .int fr, .int to, .int (nI pa)])), (mX, .inl (eX, 512, .inl Xm)), (mT, .inl (eT, 16384, .inl Tm)), (mS, .inl (eS, 16384, .inl Sm)), (mB, .inl (eB, 16384, .inl Bm))] := hD
  refine lv_iload_n hx hb dM_keep_15 rfl (lv_at hl 0 rfl) ?_
  refine zz_if_ne (a := ts) (tgt := 21) hx hb dM_keep_16 (by decide) (by omega) (fun c16 => ?_) (fun c16 => ?_)
  · refine lv_iload_n hx hb dM_keep_21 rfl (lv_at hl 0 rfl) ?_
    refine lv_aload_n hx hb dM_keep_22 rfl (lv_at hl 1 rfl) ?_
    refine va_get (D := (dC, dI)) (ci := 2) (v := .int (nI R)) (C := RM) (T := TM) (N := 18) hx hb hts hi_M hown hK hP 0 rfl rfl 1 (by decide) (hts (.fieldLink RM 26 "PacketStoreModel" "room" "I") (by decide +kernel)) (fun _ h9 => h9) rfl dM_keep_23 ?_
    refine zz_icmp_le (a := ts) (b := R) (tgt := 32) hx hb dM_keep_26 (by decide) (by omega) (by omega) (fun c26 => ?_) (fun c26 => ?_)
    · refine lv_iconst (v := nI 0) hx hb dM_keep_32 (by decide) ?_
      refine lv_istore_n (lv' := [(3, .int (nI 0)), (2, .int (nI ts)), (0, .ref mM), (1, .int tim)]) hx hb dM_keep_33 rfl hl (by decide) rfl (fun ls hl => ?_)
      have hP := hP.sub (ws' := [(mX, .inl (eX, 512, .inl Xm)), (mM, .inr (2, [.int (nI 0), .int (nI R), .ref mX, .int (nI 0), .ref mO, .int (nI os), .int (nI (hi - lo)), .ref mT, .ref mS, .ref mB, .int (nI (off hi - off lo)), .int (nI hi), .int (nI dr), .int (nI de), .int (nI uw), .int fr, .int to, .int (nI pa)])), (mT, .inl (eT, 16384, .inl Tm)), (mS, .inl (eS, 16384, .inl Sm)), (mB, .inl (eB, 16384, .inl Bm))]) [1, 0, 2, 3, 4] rfl
      have hD := hD.sub (ws' := [(mX, .inl (eX, 512, .inl Xm)), (mM, .inr (2, [.int (nI 0), .int (nI R), .ref mX, .int (nI 0), .ref mO, .int (nI os), .int (nI (hi - lo)), .ref mT, .ref mS, .ref mB, .int (nI (off hi - off lo)), .int (nI hi), .int (nI dr), .int (nI de), .int (nI uw), .int fr, .int to, .int (nI pa)])), (mT, .inl (eT, 16384, .inl Tm)), (mS, .inl (eS, 16384, .inl Sm)), (mB, .inl (eB, 16384, .inl Bm))]) [1, 0, 2, 3, 4] (by decide) rfl
      refine zz_loop (σ := Nat × (Nat → Int32) × (Nat → Int32) × (Nat → Int32)) (fun n v H locs ls => (n + v.1 = hi - lo + 1 ∧ v.1 ≤ hi - lo ∧ (∀ k, lo ≤ k → k < lo + v.1 → R < off hi - off k + ts) ∧ rm_rep (lo + v.1) hi off tm bz v.2.2.2 v.2.2.1 v.2.1) ∧ va_P (dC, dI) vwCl [(mX, .inl (eX, 512, .inl Xm)), (mM, .inr (2, [.int (nI 0), .int (nI R), .ref mX, .int (nI 0), .ref mO, .int (nI os), .int (nI (hi - (lo + v.1))), .ref mT, .ref mS, .ref mB, .int (nI (off hi - off (lo + v.1))), .int (nI hi), .int (nI dr), .int (nI de), .int (nI uw), .int fr, .int to, .int (nI pa)])), (mT, .inl (eT, 16384, .inl v.2.1)), (mS, .inl (eS, 16384, .inl v.2.2.1)), (mB, .inl (eB, 16384, .inl v.2.2.2))] H ∧ va_D A [(mX, .inl (eX, 512, .inl Xm)), (mM, .inr (2, [.int (nI 0), .int (nI R), .ref mX, .int (nI 0), .ref mO, .int (nI os), .int (nI (hi - (lo + v.1))), .ref mT, .ref mS, .ref mB, .int (nI (off hi - off (lo + v.1))), .int (nI hi), .int (nI dr), .int (nI de), .int (nI uw), .int fr, .int to, .int (nI pa)])), (mT, .inl (eT, 16384, .inl v.2.1)), (mS, .inl (eS, 16384, .inl v.2.2.1)), (mB, .inl (eB, 16384, .inl v.2.2.2))] ∧ va_S A s.heap H locs ∧ lv_has ls 5 [(3, .int (nI v.1)), (0, .ref mM), (1, .int tim), (2, .int (nI ts))]) (fun v H locs ls h => ?_) (fun n v H locs ls h ih => ?_) (hi - lo + 1) (0, Tm, Sm, Bm) _ _ _ ⟨⟨rfl, Nat.zero_le _, fun k h1 h2 => absurd h2 (Nat.not_lt.mpr h1), hrm⟩, hP, hD, hS, lv_sub hl [0, 2, 3, 1] rfl⟩
      · obtain ⟨⟨h1, h2, -⟩, -⟩ := h
        omega
      obtain ⟨g, Tg, Sg, Bg⟩ := v
      obtain ⟨⟨hj1, hj2, hj3, hrm2⟩, hP, hD, hS, hl⟩ := h
      dsimp only at hj1 hj2 hj3 hrm2
      have hok2 := hok.drop (Nat.le_add_right lo g) (show lo + g ≤ hi by omega)
      have hcap2 := hok2.2.2.1
      have hgap2 := hok2.gap (Nat.le_refl _) hok2.2.1 (Nat.le_refl hi)
      have hP : va_P (dC, dI) vwCl [(mX, .inl (eX, 512, .inl Xm)), (mM, .inr (2, [.int (nI 0), .int (nI R), .ref mX, .int (nI 0), .ref mO, .int (nI os), .int (nI (hi - (lo + g))), .ref mT, .ref mS, .ref mB, .int (nI (off hi - off (lo + g))), .int (nI hi), .int (nI dr), .int (nI de), .int (nI uw), .int fr, .int to, .int (nI pa)])), (mT, .inl (eT, 16384, .inl Tg)), (mS, .inl (eS, 16384, .inl Sg)), (mB, .inl (eB, 16384, .inl Bg))] H := hP
      have hD : va_D A [(mX, .inl (eX, 512, .inl Xm)), (mM, .inr (2, [.int (nI 0), .int (nI R), .ref mX, .int (nI 0), .ref mO, .int (nI os), .int (nI (hi - (lo + g))), .ref mT, .ref mS, .ref mB, .int (nI (off hi - off (lo + g))), .int (nI hi), .int (nI dr), .int (nI de), .int (nI uw), .int fr, .int to, .int (nI pa)])), (mT, .inl (eT, 16384, .inl Tg)), (mS, .inl (eS, 16384, .inl Sg)), (mB, .inl (eB, 16384, .inl Bg))] := hD
      have hl : lv_has ls 5 [(3, .int (nI g)), (0, .ref mM), (1, .int tim), (2, .int (nI ts))] := hl
      refine lv_aload_n hx hb dM_keep_34 rfl (lv_at hl 1 rfl) ?_
      refine va_get (D := (dC, dI)) (ci := 2) (v := .int (nI (off hi - off (lo + g)))) (C := RM) (T := TM) (N := 18) hx hb hts hi_M hown hK hP 1 rfl rfl 10 (by decide) (hts (.fieldLink RM 33 "PacketStoreModel" "used" "I") (by decide +kernel)) (fun _ h9 => h9) rfl dM_keep_35 ?_
      refine lv_iload_n hx hb dM_keep_38 rfl (lv_at hl 3 rfl) ?_
      refine lv_iadd hx hb dM_keep_39 ?_
      refine zz_as (nI ((off hi - off (lo + g)) + ts)) (nI_add _ _) ?_
      refine lv_aload_n hx hb dM_keep_40 rfl (lv_at hl 1 rfl) ?_
      refine va_get (D := (dC, dI)) (ci := 2) (v := .int (nI R)) (C := RM) (T := TM) (N := 18) hx hb hts hi_M hown hK hP 1 rfl rfl 1 (by decide) (hts (.fieldLink RM 26 "PacketStoreModel" "room" "I") (by decide +kernel)) (fun _ h9 => h9) rfl dM_keep_41 ?_
      refine zz_icmp_le (a := (off hi - off (lo + g)) + ts) (b := R) (tgt := 57) hx hb dM_keep_44 (by decide) (by omega) (by omega) (fun c44 => ?_) (fun c44 => ?_)
      · refine lv_aload_n hx hb dM_keep_57 rfl (lv_at hl 1 rfl) ?_
        refine lv_dup hx hb dM_keep_58 rfl ?_
        refine va_get (D := (dC, dI)) (ci := 2) (v := .int (nI dr)) (C := RM) (T := TM) (N := 18) hx hb hts hi_M hown hK hP 1 rfl rfl 12 (by decide) (hts (.fieldLink RM 45 "PacketStoreModel" "driven" "I") (by decide +kernel)) (fun _ h9 => h9) rfl dM_keep_59 ?_
        refine lv_iload_n hx hb dM_keep_62 rfl (lv_at hl 0 rfl) ?_
        refine lv_iadd hx hb dM_keep_63 ?_
        refine zz_as (nI (dr + g)) (nI_add _ _) ?_
        refine zz_as (nI (dr + (lo + g - lo))) (congrArg nI (by omega)) ?_
        refine va_put (D := (dC, dI)) (ci := 2) (v := .int (nI (dr + (lo + g - lo)))) (ty := .int) (C := RM) (T := TM) (N := 18) hx hb hts hi_M tyM tyM_ok nmM hown hK hP hD hS 1 rfl rfl 12 (by decide) (hts (.fieldLink RM 45 "PacketStoreModel" "driven" "I") (by decide +kernel)) (fun _ h9 => h9) rfl (by decide +kernel) rfl rfl (Nat.le_of_ble_eq_true rfl) dM_keep_64 (fun H locs hP hD hS => ?_)
        have hP : va_P (dC, dI) vwCl [(mX, .inl (eX, 512, .inl Xm)), (mM, .inr (2, [.int (nI 0), .int (nI R), .ref mX, .int (nI 0), .ref mO, .int (nI os), .int (nI (hi - (lo + g))), .ref mT, .ref mS, .ref mB, .int (nI (off hi - off (lo + g))), .int (nI hi), .int (nI (dr + (lo + g - lo))), .int (nI de), .int (nI uw), .int fr, .int to, .int (nI pa)])), (mT, .inl (eT, 16384, .inl Tg)), (mS, .inl (eS, 16384, .inl Sg)), (mB, .inl (eB, 16384, .inl Bg))] H := hP
        have hD : va_D A [(mX, .inl (eX, 512, .inl Xm)), (mM, .inr (2, [.int (nI 0), .int (nI R), .ref mX, .int (nI 0), .ref mO, .int (nI os), .int (nI (hi - (lo + g))), .ref mT, .ref mS, .ref mB, .int (nI (off hi - off (lo + g))), .int (nI hi), .int (nI (dr + (lo + g - lo))), .int (nI de), .int (nI uw), .int fr, .int to, .int (nI pa)])), (mT, .inl (eT, 16384, .inl Tg)), (mS, .inl (eS, 16384, .inl Sg)), (mB, .inl (eB, 16384, .inl Bg))] := hD
        refine lv_iconst (v := nI 0) hx hb dM_keep_67 (by decide) ?_
        refine lv_istore (lv' := [(4, .int (nI 0)), (3, .int (nI g)), (0, .ref mM), (1, .int tim), (2, .int (nI ts))]) hx hb dM_keep_68 hl (by decide) rfl (fun ls hl => ?_)
        refine zz_loop (σ := Nat × (Nat → Int32)) (fun n v H locs ls => (n + v.1 = ts + 1 ∧ v.1 ≤ ts ∧ (∀ q, q < off hi - off (lo + g) → v.2 q = Bg q) ∧ ∀ j, j < v.1 → v.2 (off hi - off (lo + g) + j) = (tz j).toInt8.toInt32) ∧ va_P (dC, dI) vwCl [(mX, .inl (eX, 512, .inl Xm)), (mM, .inr (2, [.int (nI 0), .int (nI R), .ref mX, .int (nI 0), .ref mO, .int (nI os), .int (nI (hi - (lo + g))), .ref mT, .ref mS, .ref mB, .int (nI (off hi - off (lo + g))), .int (nI hi), .int (nI (dr + (lo + g - lo))), .int (nI de), .int (nI uw), .int fr, .int to, .int (nI pa)])), (mT, .inl (eT, 16384, .inl Tg)), (mS, .inl (eS, 16384, .inl Sg)), (mB, .inl (eB, 16384, .inl v.2))] H ∧ va_D A [(mX, .inl (eX, 512, .inl Xm)), (mM, .inr (2, [.int (nI 0), .int (nI R), .ref mX, .int (nI 0), .ref mO, .int (nI os), .int (nI (hi - (lo + g))), .ref mT, .ref mS, .ref mB, .int (nI (off hi - off (lo + g))), .int (nI hi), .int (nI (dr + (lo + g - lo))), .int (nI de), .int (nI uw), .int fr, .int to, .int (nI pa)])), (mT, .inl (eT, 16384, .inl Tg)), (mS, .inl (eS, 16384, .inl Sg)), (mB, .inl (eB, 16384, .inl v.2))] ∧ va_S A s.heap H locs ∧ lv_has ls 5 [(4, .int (nI v.1)), (3, .int (nI g)), (0, .ref mM), (1, .int tim), (2, .int (nI ts))]) (fun v H locs ls h => ?_) (fun n v H locs ls h ih => ?_) (ts + 1) (0, Bg) _ _ _ ⟨⟨rfl, Nat.zero_le _, fun q _ => rfl, fun j h => absurd h (Nat.not_lt_zero j)⟩, hP, hD, hS, lv_sub hl [0, 1, 2, 3, 4] rfl⟩
        · obtain ⟨⟨h1, h2, -⟩, -⟩ := h
          omega
        obtain ⟨j, Bh⟩ := v
        obtain ⟨⟨hi1, hi2, hB1, hB2⟩, hP, hD, hS, hl⟩ := h
        dsimp only at hi1 hi2 hB1 hB2
        have hP : va_P (dC, dI) vwCl [(mX, .inl (eX, 512, .inl Xm)), (mM, .inr (2, [.int (nI 0), .int (nI R), .ref mX, .int (nI 0), .ref mO, .int (nI os), .int (nI (hi - (lo + g))), .ref mT, .ref mS, .ref mB, .int (nI (off hi - off (lo + g))), .int (nI hi), .int (nI (dr + (lo + g - lo))), .int (nI de), .int (nI uw), .int fr, .int to, .int (nI pa)])), (mT, .inl (eT, 16384, .inl Tg)), (mS, .inl (eS, 16384, .inl Sg)), (mB, .inl (eB, 16384, .inl Bh))] H := hP
        have hD : va_D A [(mX, .inl (eX, 512, .inl Xm)), (mM, .inr (2, [.int (nI 0), .int (nI R), .ref mX, .int (nI 0), .ref mO, .int (nI os), .int (nI (hi - (lo + g))), .ref mT, .ref mS, .ref mB, .int (nI (off hi - off (lo + g))), .int (nI hi), .int (nI (dr + (lo + g - lo))), .int (nI de), .int (nI uw), .int fr, .int to, .int (nI pa)])), (mT, .inl (eT, 16384, .inl Tg)), (mS, .inl (eS, 16384, .inl Sg)), (mB, .inl (eB, 16384, .inl Bh))] := hD
        have hl : lv_has ls 5 [(4, .int (nI j)), (3, .int (nI g)), (0, .ref mM), (1, .int tim), (2, .int (nI ts))] := hl
        refine lv_iload hx hb dM_keep_70 (lv_at hl 0 rfl) ?_
        refine lv_iload_n hx hb dM_keep_72 rfl (lv_at hl 4 rfl) ?_
        refine zz_icmp_ge (a := j) (b := ts) (tgt := 101) hx hb dM_keep_73 (by decide) (by omega) (by omega) (fun c73 => ?_) (fun c73 => ?_)
        · refine lv_aload_n hx hb dM_keep_101 rfl (lv_at hl 2 rfl) ?_
          refine lv_dup hx hb dM_keep_102 rfl ?_
          refine va_get (D := (dC, dI)) (ci := 2) (v := .int (nI (off hi - off (lo + g)))) (C := RM) (T := TM) (N := 18) hx hb hts hi_M hown hK hP 1 rfl rfl 10 (by decide) (hts (.fieldLink RM 33 "PacketStoreModel" "used" "I") (by decide +kernel)) (fun _ h9 => h9) rfl dM_keep_103 ?_
          refine lv_iload_n hx hb dM_keep_106 rfl (lv_at hl 4 rfl) ?_
          refine lv_iadd hx hb dM_keep_107 ?_
          refine zz_as (nI ((off hi - off (lo + g)) + ts)) (nI_add _ _) ?_
          refine zz_as (nI (off hi + ts - off (lo + g))) (congrArg nI (by omega)) ?_
          refine va_put (D := (dC, dI)) (ci := 2) (v := .int (nI (off hi + ts - off (lo + g)))) (ty := .int) (C := RM) (T := TM) (N := 18) hx hb hts hi_M tyM tyM_ok nmM hown hK hP hD hS 1 rfl rfl 10 (by decide) (hts (.fieldLink RM 33 "PacketStoreModel" "used" "I") (by decide +kernel)) (fun _ h9 => h9) rfl (by decide +kernel) rfl rfl (Nat.le_of_ble_eq_true rfl) dM_keep_108 (fun H locs hP hD hS => ?_)
          have hP : va_P (dC, dI) vwCl [(mX, .inl (eX, 512, .inl Xm)), (mM, .inr (2, [.int (nI 0), .int (nI R), .ref mX, .int (nI 0), .ref mO, .int (nI os), .int (nI (hi - (lo + g))), .ref mT, .ref mS, .ref mB, .int (nI (off hi + ts - off (lo + g))), .int (nI hi), .int (nI (dr + (lo + g - lo))), .int (nI de), .int (nI uw), .int fr, .int to, .int (nI pa)])), (mT, .inl (eT, 16384, .inl Tg)), (mS, .inl (eS, 16384, .inl Sg)), (mB, .inl (eB, 16384, .inl Bh))] H := hP
          have hD : va_D A [(mX, .inl (eX, 512, .inl Xm)), (mM, .inr (2, [.int (nI 0), .int (nI R), .ref mX, .int (nI 0), .ref mO, .int (nI os), .int (nI (hi - (lo + g))), .ref mT, .ref mS, .ref mB, .int (nI (off hi + ts - off (lo + g))), .int (nI hi), .int (nI (dr + (lo + g - lo))), .int (nI de), .int (nI uw), .int fr, .int to, .int (nI pa)])), (mT, .inl (eT, 16384, .inl Tg)), (mS, .inl (eS, 16384, .inl Sg)), (mB, .inl (eB, 16384, .inl Bh))] := hD
          refine lv_aload_n hx hb dM_keep_111 rfl (lv_at hl 2 rfl) ?_
          refine va_get (D := (dC, dI)) (ci := 2) (v := .ref mT) (C := RM) (T := TM) (N := 18) hx hb hts hi_M hown hK hP 1 rfl rfl 7 (by decide) (hts (.fieldLink RM 16 "PacketStoreModel" "time" "[I") (by decide +kernel)) (fun _ h9 => h9) rfl dM_keep_112 ?_
          refine lv_aload_n hx hb dM_keep_115 rfl (lv_at hl 2 rfl) ?_
          refine va_get (D := (dC, dI)) (ci := 2) (v := .int (nI (hi - (lo + g)))) (C := RM) (T := TM) (N := 18) hx hb hts hi_M hown hK hP 1 rfl rfl 6 (by decide) (hts (.fieldLink RM 36 "PacketStoreModel" "many" "I") (by decide +kernel)) (fun _ h9 => h9) rfl dM_keep_116 ?_
          refine lv_iload_n hx hb dM_keep_119 rfl (lv_at hl 3 rfl) ?_
          refine zz_iast hx hb hK hP hD hS 2 1 rfl rfl (j := hi - (lo + g)) (x := tim) (by omega) (by omega) dM_keep_120 (fun H locs hP hD hS => ?_)
          have hP : va_P (dC, dI) vwCl [(mX, .inl (eX, 512, .inl Xm)), (mM, .inr (2, [.int (nI 0), .int (nI R), .ref mX, .int (nI 0), .ref mO, .int (nI os), .int (nI (hi - (lo + g))), .ref mT, .ref mS, .ref mB, .int (nI (off hi + ts - off (lo + g))), .int (nI hi), .int (nI (dr + (lo + g - lo))), .int (nI de), .int (nI uw), .int fr, .int to, .int (nI pa)])), (mT, .inl (eT, 16384, .inl (upd Tg (hi - (lo + g)) tim))), (mS, .inl (eS, 16384, .inl Sg)), (mB, .inl (eB, 16384, .inl Bh))] H := hP
          have hD : va_D A [(mX, .inl (eX, 512, .inl Xm)), (mM, .inr (2, [.int (nI 0), .int (nI R), .ref mX, .int (nI 0), .ref mO, .int (nI os), .int (nI (hi - (lo + g))), .ref mT, .ref mS, .ref mB, .int (nI (off hi + ts - off (lo + g))), .int (nI hi), .int (nI (dr + (lo + g - lo))), .int (nI de), .int (nI uw), .int fr, .int to, .int (nI pa)])), (mT, .inl (eT, 16384, .inl (upd Tg (hi - (lo + g)) tim))), (mS, .inl (eS, 16384, .inl Sg)), (mB, .inl (eB, 16384, .inl Bh))] := hD
          refine lv_aload_n hx hb dM_keep_121 rfl (lv_at hl 2 rfl) ?_
          refine va_get (D := (dC, dI)) (ci := 2) (v := .ref mS) (C := RM) (T := TM) (N := 18) hx hb hts hi_M hown hK hP 1 rfl rfl 8 (by decide) (hts (.fieldLink RM 20 "PacketStoreModel" "size" "[I") (by decide +kernel)) (fun _ h9 => h9) rfl dM_keep_122 ?_
          refine lv_aload_n hx hb dM_keep_125 rfl (lv_at hl 2 rfl) ?_
          refine va_get (D := (dC, dI)) (ci := 2) (v := .int (nI (hi - (lo + g)))) (C := RM) (T := TM) (N := 18) hx hb hts hi_M hown hK hP 1 rfl rfl 6 (by decide) (hts (.fieldLink RM 36 "PacketStoreModel" "many" "I") (by decide +kernel)) (fun _ h9 => h9) rfl dM_keep_126 ?_
          refine lv_iload_n hx hb dM_keep_129 rfl (lv_at hl 4 rfl) ?_
          refine zz_iast hx hb hK hP hD hS 3 2 rfl rfl (j := hi - (lo + g)) (x := ((nI ts))) (by omega) (by omega) dM_keep_130 (fun H locs hP hD hS => ?_)
          have hP : va_P (dC, dI) vwCl [(mX, .inl (eX, 512, .inl Xm)), (mM, .inr (2, [.int (nI 0), .int (nI R), .ref mX, .int (nI 0), .ref mO, .int (nI os), .int (nI (hi - (lo + g))), .ref mT, .ref mS, .ref mB, .int (nI (off hi + ts - off (lo + g))), .int (nI hi), .int (nI (dr + (lo + g - lo))), .int (nI de), .int (nI uw), .int fr, .int to, .int (nI pa)])), (mT, .inl (eT, 16384, .inl (upd Tg (hi - (lo + g)) tim))), (mS, .inl (eS, 16384, .inl (upd Sg (hi - (lo + g)) ((nI ts))))), (mB, .inl (eB, 16384, .inl Bh))] H := hP
          have hD : va_D A [(mX, .inl (eX, 512, .inl Xm)), (mM, .inr (2, [.int (nI 0), .int (nI R), .ref mX, .int (nI 0), .ref mO, .int (nI os), .int (nI (hi - (lo + g))), .ref mT, .ref mS, .ref mB, .int (nI (off hi + ts - off (lo + g))), .int (nI hi), .int (nI (dr + (lo + g - lo))), .int (nI de), .int (nI uw), .int fr, .int to, .int (nI pa)])), (mT, .inl (eT, 16384, .inl (upd Tg (hi - (lo + g)) tim))), (mS, .inl (eS, 16384, .inl (upd Sg (hi - (lo + g)) ((nI ts))))), (mB, .inl (eB, 16384, .inl Bh))] := hD
          refine lv_aload_n hx hb dM_keep_131 rfl (lv_at hl 2 rfl) ?_
          refine lv_dup hx hb dM_keep_132 rfl ?_
          refine va_get (D := (dC, dI)) (ci := 2) (v := .int (nI (hi - (lo + g)))) (C := RM) (T := TM) (N := 18) hx hb hts hi_M hown hK hP 1 rfl rfl 6 (by decide) (hts (.fieldLink RM 36 "PacketStoreModel" "many" "I") (by decide +kernel)) (fun _ h9 => h9) rfl dM_keep_133 ?_
          refine lv_iconst (v := nI 1) hx hb dM_keep_136 (by decide) ?_
          refine lv_iadd hx hb dM_keep_137 ?_
          refine zz_as (nI ((hi - (lo + g)) + 1)) (nI_add _ _) ?_
          refine zz_as (nI (hi + 1 - (lo + g))) (congrArg nI (by omega)) ?_
          refine va_put (D := (dC, dI)) (ci := 2) (v := .int (nI (hi + 1 - (lo + g)))) (ty := .int) (C := RM) (T := TM) (N := 18) hx hb hts hi_M tyM tyM_ok nmM hown hK hP hD hS 1 rfl rfl 6 (by decide) (hts (.fieldLink RM 36 "PacketStoreModel" "many" "I") (by decide +kernel)) (fun _ h9 => h9) rfl (by decide +kernel) rfl rfl (Nat.le_of_ble_eq_true rfl) dM_keep_138 (fun H locs hP hD hS => ?_)
          have hP : va_P (dC, dI) vwCl [(mX, .inl (eX, 512, .inl Xm)), (mM, .inr (2, [.int (nI 0), .int (nI R), .ref mX, .int (nI 0), .ref mO, .int (nI os), .int (nI (hi + 1 - (lo + g))), .ref mT, .ref mS, .ref mB, .int (nI (off hi + ts - off (lo + g))), .int (nI hi), .int (nI (dr + (lo + g - lo))), .int (nI de), .int (nI uw), .int fr, .int to, .int (nI pa)])), (mT, .inl (eT, 16384, .inl (upd Tg (hi - (lo + g)) tim))), (mS, .inl (eS, 16384, .inl (upd Sg (hi - (lo + g)) ((nI ts))))), (mB, .inl (eB, 16384, .inl Bh))] H := hP
          have hD : va_D A [(mX, .inl (eX, 512, .inl Xm)), (mM, .inr (2, [.int (nI 0), .int (nI R), .ref mX, .int (nI 0), .ref mO, .int (nI os), .int (nI (hi + 1 - (lo + g))), .ref mT, .ref mS, .ref mB, .int (nI (off hi + ts - off (lo + g))), .int (nI hi), .int (nI (dr + (lo + g - lo))), .int (nI de), .int (nI uw), .int fr, .int to, .int (nI pa)])), (mT, .inl (eT, 16384, .inl (upd Tg (hi - (lo + g)) tim))), (mS, .inl (eS, 16384, .inl (upd Sg (hi - (lo + g)) ((nI ts))))), (mB, .inl (eB, 16384, .inl Bh))] := hD
          refine lv_aload_n hx hb dM_keep_141 rfl (lv_at hl 2 rfl) ?_
          refine lv_dup hx hb dM_keep_142 rfl ?_
          refine va_get (D := (dC, dI)) (ci := 2) (v := .int (nI hi)) (C := RM) (T := TM) (N := 18) hx hb hts hi_M hown hK hP 1 rfl rfl 11 (by decide) (hts (.fieldLink RM 48 "PacketStoreModel" "came" "I") (by decide +kernel)) (fun _ h9 => h9) rfl dM_keep_143 ?_
          refine lv_iconst (v := nI 1) hx hb dM_keep_146 (by decide) ?_
          refine lv_iadd hx hb dM_keep_147 ?_
          refine zz_as (nI (hi + 1)) (nI_add _ _) ?_
          refine va_put (D := (dC, dI)) (ci := 2) (v := .int (nI (hi + 1))) (ty := .int) (C := RM) (T := TM) (N := 18) hx hb hts hi_M tyM tyM_ok nmM hown hK hP hD hS 1 rfl rfl 11 (by decide) (hts (.fieldLink RM 48 "PacketStoreModel" "came" "I") (by decide +kernel)) (fun _ h9 => h9) rfl (by decide +kernel) rfl rfl (Nat.le_of_ble_eq_true rfl) dM_keep_148 (fun H locs hP hD hS => ?_)
          have hP : va_P (dC, dI) vwCl [(mX, .inl (eX, 512, .inl Xm)), (mM, .inr (2, [.int (nI 0), .int (nI R), .ref mX, .int (nI 0), .ref mO, .int (nI os), .int (nI (hi + 1 - (lo + g))), .ref mT, .ref mS, .ref mB, .int (nI (off hi + ts - off (lo + g))), .int (nI (hi + 1)), .int (nI (dr + (lo + g - lo))), .int (nI de), .int (nI uw), .int fr, .int to, .int (nI pa)])), (mT, .inl (eT, 16384, .inl (upd Tg (hi - (lo + g)) tim))), (mS, .inl (eS, 16384, .inl (upd Sg (hi - (lo + g)) ((nI ts))))), (mB, .inl (eB, 16384, .inl Bh))] H := hP
          have hD : va_D A [(mX, .inl (eX, 512, .inl Xm)), (mM, .inr (2, [.int (nI 0), .int (nI R), .ref mX, .int (nI 0), .ref mO, .int (nI os), .int (nI (hi + 1 - (lo + g))), .ref mT, .ref mS, .ref mB, .int (nI (off hi + ts - off (lo + g))), .int (nI (hi + 1)), .int (nI (dr + (lo + g - lo))), .int (nI de), .int (nI uw), .int fr, .int to, .int (nI pa)])), (mT, .inl (eT, 16384, .inl (upd Tg (hi - (lo + g)) tim))), (mS, .inl (eS, 16384, .inl (upd Sg (hi - (lo + g)) ((nI ts))))), (mB, .inl (eB, 16384, .inl Bh))] := hD
          refine lv_iload_n hx hb dM_keep_151 rfl (lv_at hl 1 rfl) ?_
          have hP := hP.sub (ws' := [(mM, .inr (2, [.int (nI 0), .int (nI R), .ref mX, .int (nI 0), .ref mO, .int (nI os), .int (nI (hi + 1 - (lo + g))), .ref mT, .ref mS, .ref mB, .int (nI (off hi + ts - off (lo + g))), .int (nI (hi + 1)), .int (nI (dr + (lo + g - lo))), .int (nI de), .int (nI uw), .int fr, .int to, .int (nI pa)])), (mX, .inl (eX, 512, .inl Xm)), (mT, .inl (eT, 16384, .inl (upd Tg (hi - (lo + g)) tim))), (mS, .inl (eS, 16384, .inl (upd Sg (hi - (lo + g)) ((nI ts))))), (mB, .inl (eB, 16384, .inl Bh))]) [1, 0, 2, 3, 4] rfl
          have hD := hD.sub (ws' := [(mM, .inr (2, [.int (nI 0), .int (nI R), .ref mX, .int (nI 0), .ref mO, .int (nI os), .int (nI (hi + 1 - (lo + g))), .ref mT, .ref mS, .ref mB, .int (nI (off hi + ts - off (lo + g))), .int (nI (hi + 1)), .int (nI (dr + (lo + g - lo))), .int (nI de), .int (nI uw), .int fr, .int to, .int (nI pa)])), (mX, .inl (eX, 512, .inl Xm)), (mT, .inl (eT, 16384, .inl (upd Tg (hi - (lo + g)) tim))), (mS, .inl (eS, 16384, .inl (upd Sg (hi - (lo + g)) ((nI ts))))), (mB, .inl (eB, 16384, .inl Bh))]) [1, 0, 2, 3, 4] (by decide) rfl
          exact W.iret (v := (nI g)) hx hb hr (fun t ht hW => ⟨⟨_, (lo + g, upd Tg (hi - (lo + g)) tim, upd Sg (hi - (lo + g)) (nI ts), Bh), rfl, ⟨congrArg nI (by omega), by omega, by omega, c44, hj3, hrm2.add hok2 hB1 (fun j h => hB2 j (by omega))⟩, by rw [ht]; exact hP, va_K.moved hW.alike hK, hD⟩, hS.F ht⟩) hS.2.2 dM_keep_152
        · refine lv_aload_n hx hb dM_keep_76 rfl (lv_at hl 2 rfl) ?_
          refine va_get (D := (dC, dI)) (ci := 2) (v := .ref mB) (C := RM) (T := TM) (N := 18) hx hb hts hi_M hown hK hP 1 rfl rfl 9 (by decide) (hts (.fieldLink RM 23 "PacketStoreModel" "bytes" "[B") (by decide +kernel)) (fun _ h9 => h9) rfl dM_keep_77 ?_
          refine lv_aload_n hx hb dM_keep_80 rfl (lv_at hl 2 rfl) ?_
          refine va_get (D := (dC, dI)) (ci := 2) (v := .int (nI (off hi - off (lo + g)))) (C := RM) (T := TM) (N := 18) hx hb hts hi_M hown hK hP 1 rfl rfl 10 (by decide) (hts (.fieldLink RM 33 "PacketStoreModel" "used" "I") (by decide +kernel)) (fun _ h9 => h9) rfl dM_keep_81 ?_
          refine lv_iload hx hb dM_keep_84 (lv_at hl 0 rfl) ?_
          refine lv_iadd hx hb dM_keep_86 ?_
          refine zz_as (nI ((off hi - off (lo + g)) + j)) (nI_add _ _) ?_
          refine lv_aload_n hx hb dM_keep_87 rfl (lv_at hl 2 rfl) ?_
          refine va_get (D := (dC, dI)) (ci := 2) (v := .ref mX) (C := RM) (T := TM) (N := 18) hx hb hts hi_M hown hK hP 1 rfl rfl 2 (by decide) (hts (.fieldLink RM 7 "PacketStoreModel" "text" "[B") (by decide +kernel)) (fun _ h9 => h9) rfl dM_keep_88 ?_
          refine lv_iload hx hb dM_keep_91 (lv_at hl 0 rfl) ?_
          refine zz_bald hx hb hK hP 0 0 rfl rfl (j := j) (by omega) (by omega) dM_keep_93 ?_
          refine zz_bast hx hb hK hP hD hS 4 3 rfl rfl (j := (off hi - off (lo + g)) + j) (x := ((Xm j))) (by omega) (by omega) dM_keep_94 (fun H locs hP hD hS => ?_)
          have hP : va_P (dC, dI) vwCl [(mX, .inl (eX, 512, .inl Xm)), (mM, .inr (2, [.int (nI 0), .int (nI R), .ref mX, .int (nI 0), .ref mO, .int (nI os), .int (nI (hi - (lo + g))), .ref mT, .ref mS, .ref mB, .int (nI (off hi - off (lo + g))), .int (nI hi), .int (nI (dr + (lo + g - lo))), .int (nI de), .int (nI uw), .int fr, .int to, .int (nI pa)])), (mT, .inl (eT, 16384, .inl Tg)), (mS, .inl (eS, 16384, .inl Sg)), (mB, .inl (eB, 16384, .inl (upd Bh ((off hi - off (lo + g)) + j) (((Xm j)).toInt8.toInt32))))] H := hP
          have hD : va_D A [(mX, .inl (eX, 512, .inl Xm)), (mM, .inr (2, [.int (nI 0), .int (nI R), .ref mX, .int (nI 0), .ref mO, .int (nI os), .int (nI (hi - (lo + g))), .ref mT, .ref mS, .ref mB, .int (nI (off hi - off (lo + g))), .int (nI hi), .int (nI (dr + (lo + g - lo))), .int (nI de), .int (nI uw), .int fr, .int to, .int (nI pa)])), (mT, .inl (eT, 16384, .inl Tg)), (mS, .inl (eS, 16384, .inl Sg)), (mB, .inl (eB, 16384, .inl (upd Bh ((off hi - off (lo + g)) + j) (((Xm j)).toInt8.toInt32))))] := hD
          refine lv_iinc (v := nI (j + 1)) (lv' := [(4, .int (nI (j + 1))), (3, .int (nI g)), (0, .ref mM), (1, .int tim), (2, .int (nI ts))]) hx hb dM_keep_95 hl (k := 0) rfl (show nI j + 1 = nI (j + 1) from nI_1 _) (by decide) rfl (fun ls hl => ?_)
          refine lv_goto (tgt := 70) hx hb dM_keep_98 (by decide) ?_
          exact ih (j + 1, upd Bh ((off hi - off (lo + g)) + j) (((Xm j)).toInt8.toInt32)) _ _ _ ⟨⟨by show _ + (j + 1) = ts + 1; omega, by show j + 1 ≤ ts; omega, fun q h => (pk_un (by omega)).trans (hB1 q h), zz_addB3 (g := fun t => (tz t).toInt8.toInt32) hB2 (by rw [htx j (by omega), zz_i8])⟩, hP, hD, hS, lv_sub hl [0, 1, 2, 3, 4] rfl⟩
      · have hlt : lo + g < hi := (Nat.lt_or_ge (lo + g) hi).elim id (fun q => by rw [show lo + g = hi by omega] at c44; omega)
        refine lv_aload_n hx hb dM_keep_47 rfl (lv_at hl 1 rfl) ?_
        refine zz_callMv (As := []) (rest := []) (wr := [(mX, .inl (eX, 512, .inl Xm))]) ⟨hx, hb, hml, hown, hts⟩ (c_M_goes l dC dI mM mX mO mT mS mB R (lo + g) hi off 0 os dr de uw fr to pa eT eS eB Tg Sg Bg tm bz hok2 hrm2 hlt _) (cwV 0 hts gM_keep_goes rfl rfl rfl (by decide +kernel) ⟨Nat.le_of_ble_eq_true rfl, Nat.le_of_ble_eq_true rfl⟩) hP hD hK hS hA [1, 2, 3, 4] [0] [1, 2, 3] rfl rfl rfl (by decide) (by decide) (by decide) rfl 0 rfl rfl rfl rfl hl.1 rfl (Nat.le_of_ble_eq_true rfl) dM_keep_48 ⟨Nat.zero_le _, Nat.zero_le _⟩ (fun u48 H locs e48 hP hD hS => ?_)
        have hP : va_P (dC, dI) vwCl [(mX, .inl (eX, 512, .inl Xm)), (mM, .inr (2, [.int (nI 0), .int (nI R), .ref mX, .int (nI 0), .ref mO, .int (nI os), .int (nI (hi - (lo + g + 1))), .ref mT, .ref mS, .ref mB, .int (nI (off hi - off (lo + g + 1))), .int (nI hi), .int (nI dr), .int (nI de), .int (nI uw), .int fr, .int to, .int (nI pa)])), (mT, .inl (eT, 16384, .inl u48.1)), (mS, .inl (eS, 16384, .inl u48.2.1)), (mB, .inl (eB, 16384, .inl u48.2.2))] H := hP
        have hD : va_D A [(mX, .inl (eX, 512, .inl Xm)), (mM, .inr (2, [.int (nI 0), .int (nI R), .ref mX, .int (nI 0), .ref mO, .int (nI os), .int (nI (hi - (lo + g + 1))), .ref mT, .ref mS, .ref mB, .int (nI (off hi - off (lo + g + 1))), .int (nI hi), .int (nI dr), .int (nI de), .int (nI uw), .int fr, .int to, .int (nI pa)])), (mT, .inl (eT, 16384, .inl u48.1)), (mS, .inl (eS, 16384, .inl u48.2.1)), (mB, .inl (eB, 16384, .inl u48.2.2))] := hD
        refine lv_iinc (v := nI (g + 1)) (lv' := [(3, .int (nI (g + 1))), (0, .ref mM), (1, .int tim), (2, .int (nI ts))]) hx hb dM_keep_51 hl (k := 0) rfl (show nI g + 1 = nI (g + 1) from nI_1 _) (by decide) rfl (fun ls hl => ?_)
        refine lv_goto (tgt := 34) hx hb dM_keep_54 (by decide) ?_
        exact ih (g + 1, u48.1, u48.2.1, u48.2.2) _ _ _ ⟨⟨by show _ + (g + 1) = hi - lo + 1; omega, by show g + 1 ≤ hi - lo; omega, fun k h1 h2 => (Nat.lt_or_ge k (lo + g)).elim (fun q => hj3 k h1 q) (fun q => by rw [show k = lo + g from Nat.le_antisymm (Nat.lt_succ_iff.mp h2) q]; exact c44), e48⟩, hP, hD, hS, lv_sub hl [0, 1, 2, 3] rfl⟩
    · exact absurd c26 (by omega)
  · exact absurd c16 (by omega)
set_option maxHeartbeats 4000000 in
set_option maxRecDepth 100000 in
/-- model: delete -/
theorem c_M_delete (l : Launch) (dC : Nat → ClassId) (dI : Nat → Nat → Nat) (mM mX mO mT mS mB R lo hi : Nat) (off : Nat → Nat) (ts os dr de uw : Nat) (fr to : Int32) (pa : Nat) (eT eS eB : ClassId) (Tm Sm Bm tm bz : Nat → Int32) (tim : Int32) (hok : rg_ok R lo hi off) (hrm : rm_rep lo hi off tm bz Bm Sm Tm) (hz : Nat) : Met l yM_delete wsM_delete ({ frames := 1, cells := 0, slots := 0, locals := 22 }) (va_Pc [.ref mM, .int tim] (fun U => U.heap.size = hz ∧ va_P (dC, dI) vwCl [(mM, .inr (2, [.int (nI 0), .int (nI R), .ref mX, .int (nI ts), .ref mO, .int (nI os), .int (nI (hi - lo)), .ref mT, .ref mS, .ref mB, .int (nI (off hi - off lo)), .int (nI hi), .int (nI dr), .int (nI de), .int (nI uw), .int fr, .int to, .int (nI pa)])), (mT, .inl (eT, 16384, .inl Tm)), (mS, .inl (eS, 16384, .inl Sm)), (mB, .inl (eB, 16384, .inl Bm))] U.heap ∧ va_K (dC, dI) vwCl [(eT, .int), (eS, .int), (eB, .byte)] U ∧ va_D (fun _ => True) [(mM, .inr (2, [.int (nI 0), .int (nI R), .ref mX, .int (nI ts), .ref mO, .int (nI os), .int (nI (hi - lo)), .ref mT, .ref mS, .ref mB, .int (nI (off hi - off lo)), .int (nI hi), .int (nI dr), .int (nI de), .int (nI uw), .int fr, .int to, .int (nI pa)])), (mT, .inl (eT, 16384, .inl Tm)), (mS, .inl (eS, 16384, .inl Sm)), (mB, .inl (eB, 16384, .inl Bm))])) (va_Qi (fun (r : Int32) (u : Nat × (Nat → Int32) × (Nat → Int32) × (Nat → Int32)) => r = nI (u.1 - lo) ∧ lo ≤ u.1 ∧ u.1 ≤ hi ∧ (∀ k, lo ≤ k → k < u.1 → ¬ tim < tm k) ∧ (u.1 < hi → tim < tm u.1) ∧ rm_rep u.1 hi off tm bz u.2.2.2 u.2.2.1 u.2.1) (fun u t => va_P (dC, dI) vwCl [(mM, .inr (2, [.int (nI 0), .int (nI R), .ref mX, .int (nI ts), .ref mO, .int (nI os), .int (nI (hi - u.1)), .ref mT, .ref mS, .ref mB, .int (nI (off hi - off u.1)), .int (nI hi), .int (nI dr), .int (nI (de + (u.1 - lo))), .int (nI uw), .int fr, .int to, .int (nI pa)])), (mT, .inl (eT, 16384, .inl u.2.1)), (mS, .inl (eS, 16384, .inl u.2.2.1)), (mB, .inl (eB, 16384, .inl u.2.2.2))] t.heap ∧ va_K (dC, dI) vwCl [(eT, .int), (eS, .int), (eB, .byte)] t ∧ va_D (va_A [(mM, .inr (2, [.int (nI 0), .int (nI R), .ref mX, .int (nI ts), .ref mO, .int (nI os), .int (nI (hi - lo)), .ref mT, .ref mS, .ref mB, .int (nI (off hi - off lo)), .int (nI hi), .int (nI dr), .int (nI de), .int (nI uw), .int fr, .int to, .int (nI pa)])), (mT, .inl (eT, 16384, .inl Tm)), (mS, .inl (eS, 16384, .inl Sm)), (mB, .inl (eB, 16384, .inl Bm))] hz) [(mM, .inr (2, [.int (nI 0), .int (nI R), .ref mX, .int (nI ts), .ref mO, .int (nI os), .int (nI (hi - u.1)), .ref mT, .ref mS, .ref mB, .int (nI (off hi - off u.1)), .int (nI hi), .int (nI dr), .int (nI (de + (u.1 - lo))), .int (nI uw), .int fr, .int to, .int (nI pa)])), (mT, .inl (eT, 16384, .inl u.2.1)), (mS, .inl (eS, 16384, .inl u.2.2.1)), (mB, .inl (eB, 16384, .inl u.2.2.2))]) (va_A [(mM, .inr (2, [.int (nI 0), .int (nI R), .ref mX, .int (nI ts), .ref mO, .int (nI os), .int (nI (hi - lo)), .ref mT, .ref mS, .ref mB, .int (nI (off hi - off lo)), .int (nI hi), .int (nI dr), .int (nI de), .int (nI uw), .int fr, .int to, .int (nI pa)])), (mT, .inl (eT, 16384, .inl Tm)), (mS, .inl (eS, 16384, .inl Sm)), (mB, .inl (eB, 16384, .inl Bm))] hz)) 0 0 (va_A [(mM, .inr (2, [.int (nI 0), .int (nI R), .ref mX, .int (nI ts), .ref mO, .int (nI os), .int (nI (hi - lo)), .ref mT, .ref mS, .ref mB, .int (nI (off hi - off lo)), .int (nI hi), .int (nI dr), .int (nI de), .int (nI uw), .int fr, .int to, .int (nI pa)])), (mT, .inl (eT, 16384, .inl Tm)), (mS, .inl (eS, 16384, .inl Sm)), (mB, .inl (eB, 16384, .inl Bm))] hz) := by
  refine Met.ofW (cc := cM_delete) (maxL := 3) (ret := (some .int)) (by decide) rfl ?_
  intro p e s m args below meth c s₁ B hml hv
  obtain ⟨rfl, hsz, hP, hK, hD0⟩ := hv
  have hx := B.exec
  have hb := B.bytes
  have hr := B.returns
  have hts := atoms_spec (ws := wsM_delete) B.pre
  have hown : s.vm.findClass RM = some m.cls := findClass_of_methodNamed B.named
  have hlocks := B.notSynchronized
  have hi_M : ∀ w ∈ u_ws RM TM 18, w ∈ wsM_delete := by decide +kernel
  subst hsz
  have hD := hD0.self (sz := s.heap.size)
  generalize hAe : va_A [(mM, .inr (2, [.int (nI 0), .int (nI R), .ref mX, .int (nI ts), .ref mO, .int (nI os), .int (nI (hi - lo)), .ref mT, .ref mS, .ref mB, .int (nI (off hi - off lo)), .int (nI hi), .int (nI dr), .int (nI de), .int (nI uw), .int fr, .int to, .int (nI pa)])), (mT, .inl (eT, 16384, .inl Tm)), (mS, .inl (eS, 16384, .inl Sm)), (mB, .inl (eB, 16384, .inl Bm))] s.heap.size = A at hD ⊢
  have hA : ∀ q : Nat, s.heap.size ≤ q → A q := fun q h => by rw [← hAe]; exact Or.inr h
  have hS : va_S A s.heap s.heap [] := va_S.rf
  have hP : va_P (dC, dI) vwCl [(mM, .inr (2, [.int (nI 0), .int (nI R), .ref mX, .int (nI ts), .ref mO, .int (nI os), .int (nI (hi - lo)), .ref mT, .ref mS, .ref mB, .int (nI (off hi - off lo)), .int (nI hi), .int (nI dr), .int (nI de), .int (nI uw), .int fr, .int to, .int (nI pa)])), (mT, .inl (eT, 16384, .inl Tm)), (mS, .inl (eS, 16384, .inl Sm)), (mB, .inl (eB, 16384, .inl Bm))] s.heap := hP
  have hl := lv_entry ([.ref mM, .int tim]) (n := 3) (Nat.le_of_ble_eq_true rfl)
  rw [lg_entry_eq]
  generalize (lg_sl ([.ref mM, .int tim]) ++ List.replicate (3 - (lg_sl ([.ref mM, .int tim])).length) Slot.unset).toArray = ls at hl ⊢
  have hl : lv_has ls 3 [(0, .ref mM), (1, .int tim)] := hl
  have hRR := hok.1
  have hll := hok.2.1
  have hcap := hok.2.2.1
  have hgap := hok.gap (Nat.le_refl lo) hll (Nat.le_refl hi)
  refine lv_aload_n hx hb dM_delete_0 rfl (lv_at hl 0 rfl) ?_
  refine lv_iconst (v := nI 0) hx hb dM_delete_1 (by decide) ?_
  refine va_put (D := (dC, dI)) (ci := 2) (v := .int (nI 0)) (ty := .int) (C := RM) (T := TM) (N := 18) hx hb hts hi_M tyM tyM_ok nmM hown hK hP hD hS 0 rfl rfl 0 (by decide) (hts (.fieldLink RM 30 "PacketStoreModel" "thrown" "I") (by decide +kernel)) (fun _ h9 => h9) rfl (by decide +kernel) rfl rfl (Nat.le_of_ble_eq_true rfl) dM_delete_2 (fun H locs hP hD hS => ?_)
  have hP : va_P (dC, dI) vwCl [(mM, .inr (2, [.int (nI 0), .int (nI R), .ref mX, .int (nI ts), .ref mO, .int (nI os), .int (nI (hi - lo)), .ref mT, .ref mS, .ref mB, .int (nI (off hi - off lo)), .int (nI hi), .int (nI dr), .int (nI de), .int (nI uw), .int fr, .int to, .int (nI pa)])), (mT, .inl (eT, 16384, .inl Tm)), (mS, .inl (eS, 16384, .inl Sm)), (mB, .inl (eB, 16384, .inl Bm))] H := hP
  have hD : va_D A [(mM, .inr (2, [.int (nI 0), .int (nI R), .ref mX, .int (nI ts), .ref mO, .int (nI os), .int (nI (hi - lo)), .ref mT, .ref mS, .ref mB, .int (nI (off hi - off lo)), .int (nI hi), .int (nI dr), .int (nI de), .int (nI uw), .int fr, .int to, .int (nI pa)])), (mT, .inl (eT, 16384, .inl Tm)), (mS, .inl (eS, 16384, .inl Sm)), (mB, .inl (eB, 16384, .inl Bm))] := hD
  refine lv_iconst (v := nI 0) hx hb dM_delete_5 (by decide) ?_
  refine lv_istore_n (lv' := [(2, .int (nI 0)), (0, .ref mM), (1, .int tim)]) hx hb dM_delete_6 rfl hl (by decide) rfl (fun ls hl => ?_)
  refine zz_loop (σ := Nat × (Nat → Int32) × (Nat → Int32) × (Nat → Int32)) (fun n v H locs ls => (n + v.1 = hi - lo + 1 ∧ v.1 ≤ hi - lo ∧ (∀ k, lo ≤ k → k < lo + v.1 → ¬ tim < tm k) ∧ rm_rep (lo + v.1) hi off tm bz v.2.2.2 v.2.2.1 v.2.1) ∧ va_P (dC, dI) vwCl [(mM, .inr (2, [.int (nI 0), .int (nI R), .ref mX, .int (nI ts), .ref mO, .int (nI os), .int (nI (hi - (lo + v.1))), .ref mT, .ref mS, .ref mB, .int (nI (off hi - off (lo + v.1))), .int (nI hi), .int (nI dr), .int (nI de), .int (nI uw), .int fr, .int to, .int (nI pa)])), (mT, .inl (eT, 16384, .inl v.2.1)), (mS, .inl (eS, 16384, .inl v.2.2.1)), (mB, .inl (eB, 16384, .inl v.2.2.2))] H ∧ va_D A [(mM, .inr (2, [.int (nI 0), .int (nI R), .ref mX, .int (nI ts), .ref mO, .int (nI os), .int (nI (hi - (lo + v.1))), .ref mT, .ref mS, .ref mB, .int (nI (off hi - off (lo + v.1))), .int (nI hi), .int (nI dr), .int (nI de), .int (nI uw), .int fr, .int to, .int (nI pa)])), (mT, .inl (eT, 16384, .inl v.2.1)), (mS, .inl (eS, 16384, .inl v.2.2.1)), (mB, .inl (eB, 16384, .inl v.2.2.2))] ∧ va_S A s.heap H locs ∧ lv_has ls 3 [(2, .int (nI v.1)), (0, .ref mM), (1, .int tim)]) (fun v H locs ls h => ?_) (fun n v H locs ls h ih => ?_) (hi - lo + 1) (0, Tm, Sm, Bm) _ _ _ ⟨⟨rfl, Nat.zero_le _, fun k h1 h2 => absurd h2 (Nat.not_lt.mpr h1), hrm⟩, hP, hD, hS, lv_sub hl [0, 1, 2] rfl⟩
  · obtain ⟨⟨h1, h2, -⟩, -⟩ := h
    omega
  obtain ⟨g, Tg, Sg, Bg⟩ := v
  obtain ⟨⟨hj1, hj2, hj3, hrm2⟩, hP, hD, hS, hl⟩ := h
  dsimp only at hj1 hj2 hj3 hrm2
  have hok2 := hok.drop (Nat.le_add_right lo g) (show lo + g ≤ hi by omega)
  have hcap2 := hok2.2.2.1
  have hgap2 := hok2.gap (Nat.le_refl _) hok2.2.1 (Nat.le_refl hi)
  have hP : va_P (dC, dI) vwCl [(mM, .inr (2, [.int (nI 0), .int (nI R), .ref mX, .int (nI ts), .ref mO, .int (nI os), .int (nI (hi - (lo + g))), .ref mT, .ref mS, .ref mB, .int (nI (off hi - off (lo + g))), .int (nI hi), .int (nI dr), .int (nI de), .int (nI uw), .int fr, .int to, .int (nI pa)])), (mT, .inl (eT, 16384, .inl Tg)), (mS, .inl (eS, 16384, .inl Sg)), (mB, .inl (eB, 16384, .inl Bg))] H := hP
  have hD : va_D A [(mM, .inr (2, [.int (nI 0), .int (nI R), .ref mX, .int (nI ts), .ref mO, .int (nI os), .int (nI (hi - (lo + g))), .ref mT, .ref mS, .ref mB, .int (nI (off hi - off (lo + g))), .int (nI hi), .int (nI dr), .int (nI de), .int (nI uw), .int fr, .int to, .int (nI pa)])), (mT, .inl (eT, 16384, .inl Tg)), (mS, .inl (eS, 16384, .inl Sg)), (mB, .inl (eB, 16384, .inl Bg))] := hD
  have hl : lv_has ls 3 [(2, .int (nI g)), (0, .ref mM), (1, .int tim)] := hl
  refine lv_aload_n hx hb dM_delete_7 rfl (lv_at hl 1 rfl) ?_
  refine va_get (D := (dC, dI)) (ci := 2) (v := .int (nI (hi - (lo + g)))) (C := RM) (T := TM) (N := 18) hx hb hts hi_M hown hK hP 0 rfl rfl 6 (by decide) (hts (.fieldLink RM 36 "PacketStoreModel" "many" "I") (by decide +kernel)) (fun _ h9 => h9) rfl dM_delete_8 ?_
  refine zz_if_le (a := hi - (lo + g)) (tgt := 34) hx hb dM_delete_11 (by decide) (by omega) (fun c11 => ?_) (fun c11 => ?_)
  · refine lv_aload_n hx hb dM_delete_34 rfl (lv_at hl 1 rfl) ?_
    refine lv_dup hx hb dM_delete_35 rfl ?_
    refine va_get (D := (dC, dI)) (ci := 2) (v := .int (nI de)) (C := RM) (T := TM) (N := 18) hx hb hts hi_M hown hK hP 0 rfl rfl 13 (by decide) (hts (.fieldLink RM 51 "PacketStoreModel" "deleted" "I") (by decide +kernel)) (fun _ h9 => h9) rfl dM_delete_36 ?_
    refine lv_iload_n hx hb dM_delete_39 rfl (lv_at hl 0 rfl) ?_
    refine lv_iadd hx hb dM_delete_40 ?_
    refine zz_as (nI (de + g)) (nI_add _ _) ?_
    refine zz_as (nI (de + (lo + g - lo))) (congrArg nI (by omega)) ?_
    refine va_put (D := (dC, dI)) (ci := 2) (v := .int (nI (de + (lo + g - lo)))) (ty := .int) (C := RM) (T := TM) (N := 18) hx hb hts hi_M tyM tyM_ok nmM hown hK hP hD hS 0 rfl rfl 13 (by decide) (hts (.fieldLink RM 51 "PacketStoreModel" "deleted" "I") (by decide +kernel)) (fun _ h9 => h9) rfl (by decide +kernel) rfl rfl (Nat.le_of_ble_eq_true rfl) dM_delete_41 (fun H locs hP hD hS => ?_)
    have hP : va_P (dC, dI) vwCl [(mM, .inr (2, [.int (nI 0), .int (nI R), .ref mX, .int (nI ts), .ref mO, .int (nI os), .int (nI (hi - (lo + g))), .ref mT, .ref mS, .ref mB, .int (nI (off hi - off (lo + g))), .int (nI hi), .int (nI dr), .int (nI (de + (lo + g - lo))), .int (nI uw), .int fr, .int to, .int (nI pa)])), (mT, .inl (eT, 16384, .inl Tg)), (mS, .inl (eS, 16384, .inl Sg)), (mB, .inl (eB, 16384, .inl Bg))] H := hP
    have hD : va_D A [(mM, .inr (2, [.int (nI 0), .int (nI R), .ref mX, .int (nI ts), .ref mO, .int (nI os), .int (nI (hi - (lo + g))), .ref mT, .ref mS, .ref mB, .int (nI (off hi - off (lo + g))), .int (nI hi), .int (nI dr), .int (nI (de + (lo + g - lo))), .int (nI uw), .int fr, .int to, .int (nI pa)])), (mT, .inl (eT, 16384, .inl Tg)), (mS, .inl (eS, 16384, .inl Sg)), (mB, .inl (eB, 16384, .inl Bg))] := hD
    refine lv_iload_n hx hb dM_delete_44 rfl (lv_at hl 0 rfl) ?_
    exact W.iret (v := (nI g)) hx hb hr (fun t ht hW => ⟨⟨_, (lo + g, Tg, Sg, Bg), rfl, ⟨congrArg nI (by omega), by omega, by omega, hj3, fun h => absurd h (by show ¬ lo + g < hi; omega), hrm2⟩, by rw [ht]; exact hP, va_K.moved hW.alike hK, hD⟩, hS.F ht⟩) hS.2.2 dM_delete_45
  · refine lv_aload_n hx hb dM_delete_14 rfl (lv_at hl 1 rfl) ?_
    refine va_get (D := (dC, dI)) (ci := 2) (v := .ref mT) (C := RM) (T := TM) (N := 18) hx hb hts hi_M hown hK hP 0 rfl rfl 7 (by decide) (hts (.fieldLink RM 16 "PacketStoreModel" "time" "[I") (by decide +kernel)) (fun _ h9 => h9) rfl dM_delete_15 ?_
    refine lv_iconst (v := nI 0) hx hb dM_delete_18 (by decide) ?_
    refine zz_iald hx hb hK hP 1 0 rfl rfl (j := 0) (by omega) (by omega) dM_delete_19 ?_
    refine zz_as (tm (lo + g)) (hrm2.1 0 (by omega)) ?_
    refine lv_iload_n hx hb dM_delete_20 rfl (lv_at hl 2 rfl) ?_
    refine lv_icmp_gt (tgt := 34) hx hb dM_delete_21 (by decide) (fun c21 => ?_) (fun c21 => ?_)
    · refine lv_aload_n hx hb dM_delete_34 rfl (lv_at hl 1 rfl) ?_
      refine lv_dup hx hb dM_delete_35 rfl ?_
      refine va_get (D := (dC, dI)) (ci := 2) (v := .int (nI de)) (C := RM) (T := TM) (N := 18) hx hb hts hi_M hown hK hP 0 rfl rfl 13 (by decide) (hts (.fieldLink RM 51 "PacketStoreModel" "deleted" "I") (by decide +kernel)) (fun _ h9 => h9) rfl dM_delete_36 ?_
      refine lv_iload_n hx hb dM_delete_39 rfl (lv_at hl 0 rfl) ?_
      refine lv_iadd hx hb dM_delete_40 ?_
      refine zz_as (nI (de + g)) (nI_add _ _) ?_
      refine zz_as (nI (de + (lo + g - lo))) (congrArg nI (by omega)) ?_
      refine va_put (D := (dC, dI)) (ci := 2) (v := .int (nI (de + (lo + g - lo)))) (ty := .int) (C := RM) (T := TM) (N := 18) hx hb hts hi_M tyM tyM_ok nmM hown hK hP hD hS 0 rfl rfl 13 (by decide) (hts (.fieldLink RM 51 "PacketStoreModel" "deleted" "I") (by decide +kernel)) (fun _ h9 => h9) rfl (by decide +kernel) rfl rfl (Nat.le_of_ble_eq_true rfl) dM_delete_41 (fun H locs hP hD hS => ?_)
      have hP : va_P (dC, dI) vwCl [(mM, .inr (2, [.int (nI 0), .int (nI R), .ref mX, .int (nI ts), .ref mO, .int (nI os), .int (nI (hi - (lo + g))), .ref mT, .ref mS, .ref mB, .int (nI (off hi - off (lo + g))), .int (nI hi), .int (nI dr), .int (nI (de + (lo + g - lo))), .int (nI uw), .int fr, .int to, .int (nI pa)])), (mT, .inl (eT, 16384, .inl Tg)), (mS, .inl (eS, 16384, .inl Sg)), (mB, .inl (eB, 16384, .inl Bg))] H := hP
      have hD : va_D A [(mM, .inr (2, [.int (nI 0), .int (nI R), .ref mX, .int (nI ts), .ref mO, .int (nI os), .int (nI (hi - (lo + g))), .ref mT, .ref mS, .ref mB, .int (nI (off hi - off (lo + g))), .int (nI hi), .int (nI dr), .int (nI (de + (lo + g - lo))), .int (nI uw), .int fr, .int to, .int (nI pa)])), (mT, .inl (eT, 16384, .inl Tg)), (mS, .inl (eS, 16384, .inl Sg)), (mB, .inl (eB, 16384, .inl Bg))] := hD
      refine lv_iload_n hx hb dM_delete_44 rfl (lv_at hl 0 rfl) ?_
      exact W.iret (v := (nI g)) hx hb hr (fun t ht hW => ⟨⟨_, (lo + g, Tg, Sg, Bg), rfl, ⟨congrArg nI (by omega), by omega, by omega, hj3, fun _ => c21, hrm2⟩, by rw [ht]; exact hP, va_K.moved hW.alike hK, hD⟩, hS.F ht⟩) hS.2.2 dM_delete_45
    · refine lv_aload_n hx hb dM_delete_24 rfl (lv_at hl 1 rfl) ?_
      refine zz_callMv (As := []) (rest := []) (wr := []) ⟨hx, hb, hml, hown, hts⟩ (c_M_goes l dC dI mM mX mO mT mS mB R (lo + g) hi off ts os dr de uw fr to pa eT eS eB Tg Sg Bg tm bz hok2 hrm2 (by omega) _) (cwV 0 hts gM_delete_goes rfl rfl rfl (by decide +kernel) ⟨Nat.le_of_ble_eq_true rfl, Nat.le_of_ble_eq_true rfl⟩) hP hD hK hS hA [0, 1, 2, 3] [] [0, 1, 2] rfl rfl rfl (by decide) (by decide) (by decide) rfl 0 rfl rfl rfl rfl hl.1 rfl (Nat.le_of_ble_eq_true rfl) dM_delete_25 ⟨Nat.zero_le _, Nat.zero_le _⟩ (fun u25 H locs e25 hP hD hS => ?_)
      have hP : va_P (dC, dI) vwCl [(mM, .inr (2, [.int (nI 0), .int (nI R), .ref mX, .int (nI ts), .ref mO, .int (nI os), .int (nI (hi - (lo + g + 1))), .ref mT, .ref mS, .ref mB, .int (nI (off hi - off (lo + g + 1))), .int (nI hi), .int (nI dr), .int (nI de), .int (nI uw), .int fr, .int to, .int (nI pa)])), (mT, .inl (eT, 16384, .inl u25.1)), (mS, .inl (eS, 16384, .inl u25.2.1)), (mB, .inl (eB, 16384, .inl u25.2.2))] H := hP
      have hD : va_D A [(mM, .inr (2, [.int (nI 0), .int (nI R), .ref mX, .int (nI ts), .ref mO, .int (nI os), .int (nI (hi - (lo + g + 1))), .ref mT, .ref mS, .ref mB, .int (nI (off hi - off (lo + g + 1))), .int (nI hi), .int (nI dr), .int (nI de), .int (nI uw), .int fr, .int to, .int (nI pa)])), (mT, .inl (eT, 16384, .inl u25.1)), (mS, .inl (eS, 16384, .inl u25.2.1)), (mB, .inl (eB, 16384, .inl u25.2.2))] := hD
      refine lv_iinc (v := nI (g + 1)) (lv' := [(2, .int (nI (g + 1))), (0, .ref mM), (1, .int tim)]) hx hb dM_delete_28 hl (k := 0) rfl (show nI g + 1 = nI (g + 1) from nI_1 _) (by decide) rfl (fun ls hl => ?_)
      refine lv_goto (tgt := 7) hx hb dM_delete_31 (by decide) ?_
      exact ih (g + 1, u25.1, u25.2.1, u25.2.2) _ _ _ ⟨⟨by show _ + (g + 1) = hi - lo + 1; omega, by show g + 1 ≤ hi - lo; omega, fun k h1 h2 => (Nat.lt_or_ge k (lo + g)).elim (fun q => hj3 k h1 q) (fun q => by rw [show k = lo + g from Nat.le_antisymm (Nat.lt_succ_iff.mp h2) q]; exact c21), e25⟩, hP, hD, hS, lv_sub hl [0, 1, 2] rfl⟩
set_option maxHeartbeats 4000000 in
set_option maxRecDepth 100000 in
/-- model: begin -/
theorem c_M_begin (l : Launch) (dC : Nat → ClassId) (dI : Nat → Nat → Nat) (mM mX mO mT mS mB R ts os ma us ca dr de uw : Nat) (fr to : Int32) (lk : Nat) (f2 t2 : Int32) (huw : uw ≤ 1) (hma : ma ≤ ca) (hz : Nat) : Met l yM_begin wsM_begin ({ frames := 0, cells := 0, slots := 0, locals := 0 }) (va_Pc [.ref mM, .int f2, .int t2] (fun U => U.heap.size = hz ∧ va_P (dC, dI) vwCl [(mM, .inr (2, [.int (nI 0), .int (nI R), .ref mX, .int (nI ts), .ref mO, .int (nI os), .int (nI ma), .ref mT, .ref mS, .ref mB, .int (nI us), .int (nI ca), .int (nI dr), .int (nI de), .int (nI uw), .int fr, .int to, .int (nI lk)]))] U.heap ∧ va_K (dC, dI) vwCl [] U ∧ va_D (fun _ => True) [(mM, .inr (2, [.int (nI 0), .int (nI R), .ref mX, .int (nI ts), .ref mO, .int (nI os), .int (nI ma), .ref mT, .ref mS, .ref mB, .int (nI us), .int (nI ca), .int (nI dr), .int (nI de), .int (nI uw), .int fr, .int to, .int (nI lk)]))])) (va_Qi (fun (r : Int32) (u : Nat × Int32 × Int32 × Nat) => (uw ≠ 0 ∧ r = nI 0 ∧ u = (uw, fr, to, lk)) ∨ (uw = 0 ∧ r = nI 1 ∧ u = (1, f2, t2, ca - ma))) (fun u t => va_P (dC, dI) vwCl [(mM, .inr (2, [.int (nI 0), .int (nI R), .ref mX, .int (nI ts), .ref mO, .int (nI os), .int (nI ma), .ref mT, .ref mS, .ref mB, .int (nI us), .int (nI ca), .int (nI dr), .int (nI de), .int (nI u.1), .int u.2.1, .int u.2.2.1, .int (nI u.2.2.2)]))] t.heap ∧ va_K (dC, dI) vwCl [] t ∧ va_D (va_A [(mM, .inr (2, [.int (nI 0), .int (nI R), .ref mX, .int (nI ts), .ref mO, .int (nI os), .int (nI ma), .ref mT, .ref mS, .ref mB, .int (nI us), .int (nI ca), .int (nI dr), .int (nI de), .int (nI uw), .int fr, .int to, .int (nI lk)]))] hz) [(mM, .inr (2, [.int (nI 0), .int (nI R), .ref mX, .int (nI ts), .ref mO, .int (nI os), .int (nI ma), .ref mT, .ref mS, .ref mB, .int (nI us), .int (nI ca), .int (nI dr), .int (nI de), .int (nI u.1), .int u.2.1, .int u.2.2.1, .int (nI u.2.2.2)]))]) (va_A [(mM, .inr (2, [.int (nI 0), .int (nI R), .ref mX, .int (nI ts), .ref mO, .int (nI os), .int (nI ma), .ref mT, .ref mS, .ref mB, .int (nI us), .int (nI ca), .int (nI dr), .int (nI de), .int (nI uw), .int fr, .int to, .int (nI lk)]))] hz)) 0 0 (va_A [(mM, .inr (2, [.int (nI 0), .int (nI R), .ref mX, .int (nI ts), .ref mO, .int (nI os), .int (nI ma), .ref mT, .ref mS, .ref mB, .int (nI us), .int (nI ca), .int (nI dr), .int (nI de), .int (nI uw), .int fr, .int to, .int (nI lk)]))] hz) := by
  refine Met.ofW (cc := cM_begin) (maxL := 3) (ret := (some .boolean)) (by decide) rfl ?_
  intro p e s m args below meth c s₁ B hml hv
  obtain ⟨rfl, hsz, hP, hK, hD0⟩ := hv
  have hx := B.exec
  have hb := B.bytes
  have hr := B.returns
  have hts := atoms_spec (ws := wsM_begin) B.pre
  have hown : s.vm.findClass RM = some m.cls := findClass_of_methodNamed B.named
  have hlocks := B.notSynchronized
  have hi_M : ∀ w ∈ u_ws RM TM 18, w ∈ wsM_begin := by decide +kernel
  subst hsz
  have hD := hD0.self (sz := s.heap.size)
  generalize hAe : va_A [(mM, .inr (2, [.int (nI 0), .int (nI R), .ref mX, .int (nI ts), .ref mO, .int (nI os), .int (nI ma), .ref mT, .ref mS, .ref mB, .int (nI us), .int (nI ca), .int (nI dr), .int (nI de), .int (nI uw), .int fr, .int to, .int (nI lk)]))] s.heap.size = A at hD ⊢
  have hA : ∀ q : Nat, s.heap.size ≤ q → A q := fun q h => by rw [← hAe]; exact Or.inr h
  have hS : va_S A s.heap s.heap [] := va_S.rf
  have hP : va_P (dC, dI) vwCl [(mM, .inr (2, [.int (nI 0), .int (nI R), .ref mX, .int (nI ts), .ref mO, .int (nI os), .int (nI ma), .ref mT, .ref mS, .ref mB, .int (nI us), .int (nI ca), .int (nI dr), .int (nI de), .int (nI uw), .int fr, .int to, .int (nI lk)]))] s.heap := hP
  have hl := lv_entry ([.ref mM, .int f2, .int t2]) (n := 3) (Nat.le_of_ble_eq_true rfl)
  rw [lg_entry_eq]
  generalize (lg_sl ([.ref mM, .int f2, .int t2]) ++ List.replicate (3 - (lg_sl ([.ref mM, .int f2, .int t2])).length) Slot.unset).toArray = ls at hl ⊢
  have hl : lv_has ls 3 [(0, .ref mM), (1, .int f2), (2, .int t2)] := hl
  refine lv_aload_n hx hb dM_begin_0 rfl (lv_at hl 0 rfl) ?_
  refine lv_iconst (v := nI 0) hx hb dM_begin_1 (by decide) ?_
  refine va_put (D := (dC, dI)) (ci := 2) (v := .int (nI 0)) (ty := .int) (C := RM) (T := TM) (N := 18) hx hb hts hi_M tyM tyM_ok nmM hown hK hP hD hS 0 rfl rfl 0 (by decide) (hts (.fieldLink RM 30 "PacketStoreModel" "thrown" "I") (by decide +kernel)) (fun _ h9 => h9) rfl (by decide +kernel) rfl rfl (Nat.le_of_ble_eq_true rfl) dM_begin_2 (fun H locs hP hD hS => ?_)
  have hP : va_P (dC, dI) vwCl [(mM, .inr (2, [.int (nI 0), .int (nI R), .ref mX, .int (nI ts), .ref mO, .int (nI os), .int (nI ma), .ref mT, .ref mS, .ref mB, .int (nI us), .int (nI ca), .int (nI dr), .int (nI de), .int (nI uw), .int fr, .int to, .int (nI lk)]))] H := hP
  have hD : va_D A [(mM, .inr (2, [.int (nI 0), .int (nI R), .ref mX, .int (nI ts), .ref mO, .int (nI os), .int (nI ma), .ref mT, .ref mS, .ref mB, .int (nI us), .int (nI ca), .int (nI dr), .int (nI de), .int (nI uw), .int fr, .int to, .int (nI lk)]))] := hD
  refine lv_aload_n hx hb dM_begin_5 rfl (lv_at hl 0 rfl) ?_
  refine va_get (D := (dC, dI)) (ci := 2) (v := .int (nI uw)) (C := RM) (T := TM) (N := 18) hx hb hts hi_M hown hK hP 0 rfl rfl 14 (by decide) (hts (.fieldLink RM 54 "PacketStoreModel" "retrieves" "Z") (by decide +kernel)) (fun _ h9 => h9) rfl dM_begin_6 ?_
  refine zz_if_eq (a := uw) (tgt := 14) hx hb dM_begin_9 (by decide) (by omega) (fun c9 => ?_) (fun c9 => ?_)
  · refine lv_aload_n hx hb dM_begin_14 rfl (lv_at hl 0 rfl) ?_
    refine lv_iconst (v := nI 1) hx hb dM_begin_15 (by decide) ?_
    refine va_put (D := (dC, dI)) (ci := 2) (v := .int (nI 1)) (ty := .boolean) (C := RM) (T := TM) (N := 18) hx hb hts hi_M tyM tyM_ok nmM hown hK hP hD hS 0 rfl rfl 14 (by decide) (hts (.fieldLink RM 54 "PacketStoreModel" "retrieves" "Z") (by decide +kernel)) (fun _ h9 => h9) rfl (by decide +kernel) rfl rfl (Nat.le_of_ble_eq_true rfl) dM_begin_16 (fun H locs hP hD hS => ?_)
    have hP : va_P (dC, dI) vwCl [(mM, .inr (2, [.int (nI 0), .int (nI R), .ref mX, .int (nI ts), .ref mO, .int (nI os), .int (nI ma), .ref mT, .ref mS, .ref mB, .int (nI us), .int (nI ca), .int (nI dr), .int (nI de), .int (nI 1), .int fr, .int to, .int (nI lk)]))] H := hP
    have hD : va_D A [(mM, .inr (2, [.int (nI 0), .int (nI R), .ref mX, .int (nI ts), .ref mO, .int (nI os), .int (nI ma), .ref mT, .ref mS, .ref mB, .int (nI us), .int (nI ca), .int (nI dr), .int (nI de), .int (nI 1), .int fr, .int to, .int (nI lk)]))] := hD
    refine lv_aload_n hx hb dM_begin_19 rfl (lv_at hl 0 rfl) ?_
    refine lv_iload_n hx hb dM_begin_20 rfl (lv_at hl 1 rfl) ?_
    refine va_put (D := (dC, dI)) (ci := 2) (v := .int f2) (ty := .int) (C := RM) (T := TM) (N := 18) hx hb hts hi_M tyM tyM_ok nmM hown hK hP hD hS 0 rfl rfl 15 (by decide) (hts (.fieldLink RM 58 "PacketStoreModel" "from" "I") (by decide +kernel)) (fun _ h9 => h9) rfl (by decide +kernel) rfl rfl (Nat.le_of_ble_eq_true rfl) dM_begin_21 (fun H locs hP hD hS => ?_)
    have hP : va_P (dC, dI) vwCl [(mM, .inr (2, [.int (nI 0), .int (nI R), .ref mX, .int (nI ts), .ref mO, .int (nI os), .int (nI ma), .ref mT, .ref mS, .ref mB, .int (nI us), .int (nI ca), .int (nI dr), .int (nI de), .int (nI 1), .int f2, .int to, .int (nI lk)]))] H := hP
    have hD : va_D A [(mM, .inr (2, [.int (nI 0), .int (nI R), .ref mX, .int (nI ts), .ref mO, .int (nI os), .int (nI ma), .ref mT, .ref mS, .ref mB, .int (nI us), .int (nI ca), .int (nI dr), .int (nI de), .int (nI 1), .int f2, .int to, .int (nI lk)]))] := hD
    refine lv_aload_n hx hb dM_begin_24 rfl (lv_at hl 0 rfl) ?_
    refine lv_iload_n hx hb dM_begin_25 rfl (lv_at hl 2 rfl) ?_
    refine va_put (D := (dC, dI)) (ci := 2) (v := .int t2) (ty := .int) (C := RM) (T := TM) (N := 18) hx hb hts hi_M tyM tyM_ok nmM hown hK hP hD hS 0 rfl rfl 16 (by decide) (hts (.fieldLink RM 61 "PacketStoreModel" "to" "I") (by decide +kernel)) (fun _ h9 => h9) rfl (by decide +kernel) rfl rfl (Nat.le_of_ble_eq_true rfl) dM_begin_26 (fun H locs hP hD hS => ?_)
    have hP : va_P (dC, dI) vwCl [(mM, .inr (2, [.int (nI 0), .int (nI R), .ref mX, .int (nI ts), .ref mO, .int (nI os), .int (nI ma), .ref mT, .ref mS, .ref mB, .int (nI us), .int (nI ca), .int (nI dr), .int (nI de), .int (nI 1), .int f2, .int t2, .int (nI lk)]))] H := hP
    have hD : va_D A [(mM, .inr (2, [.int (nI 0), .int (nI R), .ref mX, .int (nI ts), .ref mO, .int (nI os), .int (nI ma), .ref mT, .ref mS, .ref mB, .int (nI us), .int (nI ca), .int (nI dr), .int (nI de), .int (nI 1), .int f2, .int t2, .int (nI lk)]))] := hD
    refine lv_aload_n hx hb dM_begin_29 rfl (lv_at hl 0 rfl) ?_
    refine lv_aload_n hx hb dM_begin_30 rfl (lv_at hl 0 rfl) ?_
    refine va_get (D := (dC, dI)) (ci := 2) (v := .int (nI ca)) (C := RM) (T := TM) (N := 18) hx hb hts hi_M hown hK hP 0 rfl rfl 11 (by decide) (hts (.fieldLink RM 48 "PacketStoreModel" "came" "I") (by decide +kernel)) (fun _ h9 => h9) rfl dM_begin_31 ?_
    refine lv_aload_n hx hb dM_begin_34 rfl (lv_at hl 0 rfl) ?_
    refine va_get (D := (dC, dI)) (ci := 2) (v := .int (nI ma)) (C := RM) (T := TM) (N := 18) hx hb hts hi_M hown hK hP 0 rfl rfl 6 (by decide) (hts (.fieldLink RM 36 "PacketStoreModel" "many" "I") (by decide +kernel)) (fun _ h9 => h9) rfl dM_begin_35 ?_
    refine lv_isub hx hb dM_begin_38 ?_
    refine zz_as (nI (ca - ma)) (pk_sub (by omega)) ?_
    refine va_put (D := (dC, dI)) (ci := 2) (v := .int (nI (ca - ma))) (ty := .int) (C := RM) (T := TM) (N := 18) hx hb hts hi_M tyM tyM_ok nmM hown hK hP hD hS 0 rfl rfl 17 (by decide) (hts (.fieldLink RM 64 "PacketStoreModel" "looks" "I") (by decide +kernel)) (fun _ h9 => h9) rfl (by decide +kernel) rfl rfl (Nat.le_of_ble_eq_true rfl) dM_begin_39 (fun H locs hP hD hS => ?_)
    have hP : va_P (dC, dI) vwCl [(mM, .inr (2, [.int (nI 0), .int (nI R), .ref mX, .int (nI ts), .ref mO, .int (nI os), .int (nI ma), .ref mT, .ref mS, .ref mB, .int (nI us), .int (nI ca), .int (nI dr), .int (nI de), .int (nI 1), .int f2, .int t2, .int (nI (ca - ma))]))] H := hP
    have hD : va_D A [(mM, .inr (2, [.int (nI 0), .int (nI R), .ref mX, .int (nI ts), .ref mO, .int (nI os), .int (nI ma), .ref mT, .ref mS, .ref mB, .int (nI us), .int (nI ca), .int (nI dr), .int (nI de), .int (nI 1), .int f2, .int t2, .int (nI (ca - ma))]))] := hD
    refine lv_iconst (v := nI 1) hx hb dM_begin_42 (by decide) ?_
    exact W.zret (v := (nI 1)) hx hb hr rfl (fun t ht hW => ⟨⟨_, (1, f2, t2, ca - ma), rfl, Or.inr ⟨c9, rfl, rfl⟩, by rw [ht]; exact hP, va_K.moved hW.alike hK, hD⟩, hS.F ht⟩) hS.2.2 dM_begin_43
  · refine lv_iconst (v := nI 0) hx hb dM_begin_12 (by decide) ?_
    exact W.zret (v := (nI 0)) hx hb hr rfl (fun t ht hW => ⟨⟨_, (uw, fr, to, lk), rfl, Or.inl ⟨c9, rfl, rfl⟩, by rw [ht]; exact hP, va_K.moved hW.alike hK, hD⟩, hS.F ht⟩) hS.2.2 dM_begin_13
set_option maxHeartbeats 4000000 in
set_option maxRecDepth 100000 in
/-- model: stop -/
theorem c_M_stop (l : Launch) (dC : Nat → ClassId) (dI : Nat → Nat → Nat) (mM mX mO mT mS mB R ts os ma us ca dr de uw : Nat) (fr to : Int32) (lk : Nat) (huw : uw ≤ 1) (hz : Nat) : Met l yM_stop wsM_stop ({ frames := 0, cells := 0, slots := 0, locals := 0 }) (va_Pc [.ref mM] (fun U => U.heap.size = hz ∧ va_P (dC, dI) vwCl [(mM, .inr (2, [.int (nI 0), .int (nI R), .ref mX, .int (nI ts), .ref mO, .int (nI os), .int (nI ma), .ref mT, .ref mS, .ref mB, .int (nI us), .int (nI ca), .int (nI dr), .int (nI de), .int (nI uw), .int fr, .int to, .int (nI lk)]))] U.heap ∧ va_K (dC, dI) vwCl [] U ∧ va_D (fun _ => True) [(mM, .inr (2, [.int (nI 0), .int (nI R), .ref mX, .int (nI ts), .ref mO, .int (nI os), .int (nI ma), .ref mT, .ref mS, .ref mB, .int (nI us), .int (nI ca), .int (nI dr), .int (nI de), .int (nI uw), .int fr, .int to, .int (nI lk)]))])) (va_Qi (fun (r : Int32) (u : Unit) => r = nI uw) (fun u t => va_P (dC, dI) vwCl [(mM, .inr (2, [.int (nI 0), .int (nI R), .ref mX, .int (nI ts), .ref mO, .int (nI os), .int (nI ma), .ref mT, .ref mS, .ref mB, .int (nI us), .int (nI ca), .int (nI dr), .int (nI de), .int (nI 0), .int fr, .int to, .int (nI lk)]))] t.heap ∧ va_K (dC, dI) vwCl [] t ∧ va_D (va_A [(mM, .inr (2, [.int (nI 0), .int (nI R), .ref mX, .int (nI ts), .ref mO, .int (nI os), .int (nI ma), .ref mT, .ref mS, .ref mB, .int (nI us), .int (nI ca), .int (nI dr), .int (nI de), .int (nI uw), .int fr, .int to, .int (nI lk)]))] hz) [(mM, .inr (2, [.int (nI 0), .int (nI R), .ref mX, .int (nI ts), .ref mO, .int (nI os), .int (nI ma), .ref mT, .ref mS, .ref mB, .int (nI us), .int (nI ca), .int (nI dr), .int (nI de), .int (nI 0), .int fr, .int to, .int (nI lk)]))]) (va_A [(mM, .inr (2, [.int (nI 0), .int (nI R), .ref mX, .int (nI ts), .ref mO, .int (nI os), .int (nI ma), .ref mT, .ref mS, .ref mB, .int (nI us), .int (nI ca), .int (nI dr), .int (nI de), .int (nI uw), .int fr, .int to, .int (nI lk)]))] hz)) 0 0 (va_A [(mM, .inr (2, [.int (nI 0), .int (nI R), .ref mX, .int (nI ts), .ref mO, .int (nI os), .int (nI ma), .ref mT, .ref mS, .ref mB, .int (nI us), .int (nI ca), .int (nI dr), .int (nI de), .int (nI uw), .int fr, .int to, .int (nI lk)]))] hz) := by
  refine Met.ofW (cc := cM_stop) (maxL := 2) (ret := (some .boolean)) (by decide) rfl ?_
  intro p e s m args below meth c s₁ B hml hv
  obtain ⟨rfl, hsz, hP, hK, hD0⟩ := hv
  have hx := B.exec
  have hb := B.bytes
  have hr := B.returns
  have hts := atoms_spec (ws := wsM_stop) B.pre
  have hown : s.vm.findClass RM = some m.cls := findClass_of_methodNamed B.named
  have hlocks := B.notSynchronized
  have hi_M : ∀ w ∈ u_ws RM TM 18, w ∈ wsM_stop := by decide +kernel
  subst hsz
  have hD := hD0.self (sz := s.heap.size)
  generalize hAe : va_A [(mM, .inr (2, [.int (nI 0), .int (nI R), .ref mX, .int (nI ts), .ref mO, .int (nI os), .int (nI ma), .ref mT, .ref mS, .ref mB, .int (nI us), .int (nI ca), .int (nI dr), .int (nI de), .int (nI uw), .int fr, .int to, .int (nI lk)]))] s.heap.size = A at hD ⊢
  have hA : ∀ q : Nat, s.heap.size ≤ q → A q := fun q h => by rw [← hAe]; exact Or.inr h
  have hS : va_S A s.heap s.heap [] := va_S.rf
  have hP : va_P (dC, dI) vwCl [(mM, .inr (2, [.int (nI 0), .int (nI R), .ref mX, .int (nI ts), .ref mO, .int (nI os), .int (nI ma), .ref mT, .ref mS, .ref mB, .int (nI us), .int (nI ca), .int (nI dr), .int (nI de), .int (nI uw), .int fr, .int to, .int (nI lk)]))] s.heap := hP
  have hl := lv_entry ([.ref mM]) (n := 2) (Nat.le_of_ble_eq_true rfl)
  rw [lg_entry_eq]
  generalize (lg_sl ([.ref mM]) ++ List.replicate (2 - (lg_sl ([.ref mM])).length) Slot.unset).toArray = ls at hl ⊢
  have hl : lv_has ls 2 [(0, .ref mM)] := hl
  refine lv_aload_n hx hb dM_stop_0 rfl (lv_at hl 0 rfl) ?_
  refine lv_iconst (v := nI 0) hx hb dM_stop_1 (by decide) ?_
  refine va_put (D := (dC, dI)) (ci := 2) (v := .int (nI 0)) (ty := .int) (C := RM) (T := TM) (N := 18) hx hb hts hi_M tyM tyM_ok nmM hown hK hP hD hS 0 rfl rfl 0 (by decide) (hts (.fieldLink RM 30 "PacketStoreModel" "thrown" "I") (by decide +kernel)) (fun _ h9 => h9) rfl (by decide +kernel) rfl rfl (Nat.le_of_ble_eq_true rfl) dM_stop_2 (fun H locs hP hD hS => ?_)
  have hP : va_P (dC, dI) vwCl [(mM, .inr (2, [.int (nI 0), .int (nI R), .ref mX, .int (nI ts), .ref mO, .int (nI os), .int (nI ma), .ref mT, .ref mS, .ref mB, .int (nI us), .int (nI ca), .int (nI dr), .int (nI de), .int (nI uw), .int fr, .int to, .int (nI lk)]))] H := hP
  have hD : va_D A [(mM, .inr (2, [.int (nI 0), .int (nI R), .ref mX, .int (nI ts), .ref mO, .int (nI os), .int (nI ma), .ref mT, .ref mS, .ref mB, .int (nI us), .int (nI ca), .int (nI dr), .int (nI de), .int (nI uw), .int fr, .int to, .int (nI lk)]))] := hD
  refine lv_aload_n hx hb dM_stop_5 rfl (lv_at hl 0 rfl) ?_
  refine va_get (D := (dC, dI)) (ci := 2) (v := .int (nI uw)) (C := RM) (T := TM) (N := 18) hx hb hts hi_M hown hK hP 0 rfl rfl 14 (by decide) (hts (.fieldLink RM 54 "PacketStoreModel" "retrieves" "Z") (by decide +kernel)) (fun _ h9 => h9) rfl dM_stop_6 ?_
  refine lv_istore_n (lv' := [(1, .int (nI uw)), (0, .ref mM)]) hx hb dM_stop_9 rfl hl (by decide) rfl (fun ls hl => ?_)
  refine lv_aload_n hx hb dM_stop_10 rfl (lv_at hl 1 rfl) ?_
  refine lv_iconst (v := nI 0) hx hb dM_stop_11 (by decide) ?_
  refine va_put (D := (dC, dI)) (ci := 2) (v := .int (nI 0)) (ty := .boolean) (C := RM) (T := TM) (N := 18) hx hb hts hi_M tyM tyM_ok nmM hown hK hP hD hS 0 rfl rfl 14 (by decide) (hts (.fieldLink RM 54 "PacketStoreModel" "retrieves" "Z") (by decide +kernel)) (fun _ h9 => h9) rfl (by decide +kernel) rfl rfl (Nat.le_of_ble_eq_true rfl) dM_stop_12 (fun H locs hP hD hS => ?_)
  have hP : va_P (dC, dI) vwCl [(mM, .inr (2, [.int (nI 0), .int (nI R), .ref mX, .int (nI ts), .ref mO, .int (nI os), .int (nI ma), .ref mT, .ref mS, .ref mB, .int (nI us), .int (nI ca), .int (nI dr), .int (nI de), .int (nI 0), .int fr, .int to, .int (nI lk)]))] H := hP
  have hD : va_D A [(mM, .inr (2, [.int (nI 0), .int (nI R), .ref mX, .int (nI ts), .ref mO, .int (nI os), .int (nI ma), .ref mT, .ref mS, .ref mB, .int (nI us), .int (nI ca), .int (nI dr), .int (nI de), .int (nI 0), .int fr, .int to, .int (nI lk)]))] := hD
  refine lv_iload_n hx hb dM_stop_15 rfl (lv_at hl 0 rfl) ?_
  exact W.zret (v := (nI uw)) hx hb hr (by rcases (show uw = 0 ∨ uw = 1 by omega) with h | h <;> subst h <;> rfl) (fun t ht hW => ⟨⟨_, (), rfl, rfl, by rw [ht]; exact hP, va_K.moved hW.alike hK, hD⟩, hS.F ht⟩) hS.2.2 dM_stop_16
