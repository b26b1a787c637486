set_option maxHeartbeats 8000000 in
set_option maxRecDepth 100000 in
/-- THE LAW, from its entry -/
theorem whole_start {p : Program} {e : Env} {s : State} {m : MethodId} {below : List Frame} {meth : Method} {c : Code} (l : Launch) {b L : Nat} {xs : Nat → Int32} (hL : L ≤ 1537) (C0 : lw_At p s m meth c b L xs) : W p l e room_1 s m #[Value.ref b] below meth c s.heap [] 0 0 (lw_Z below #[Value.ref b] s) (entryFrame m ([Value.ref b] : List Value).toArray 4) := by
  obtain ⟨hx, hb, hr, hml, hown, hts, hX, hbl, hlocks, hgv⟩ := id C0
  have hown : s.vm.findClass RL = some m.cls := hown
  have hA : ∀ q : Nat, s.heap.size ≤ q → (fun q : Nat => s.heap.size ≤ q) q := fun _ h => h
  have hbA : ¬ (fun q : Nat => s.heap.size ≤ q) b := Nat.not_le.mpr hbl
  obtain ⟨c0, iS0, hKn0⟩ := u_known (C := RX0) (T := TX0) (N := 8) (n := 8) hts il_X0 (hts (.instantiable RX0 8) (by decide +kernel))
  obtain ⟨c1, iS1, hKn1⟩ := u_known (C := RX1) (T := TX1) (N := 12) (n := 12) hts il_X1 (hts (.instantiable RX1 12) (by decide +kernel))
  obtain ⟨c2, iS2, hKn2⟩ := u_known (C := RM) (T := TM) (N := 18) (n := 18) hts il_M (hts (.instantiable RM 18) (by decide +kernel))
  obtain ⟨dC, dI, hKc⟩ : ∃ (dC : Nat → ClassId) (dI : Nat → Nat → Nat), ∀ (k : Nat) (q : vw_C), vwCl[k]? = some q → u_Kn s q.1 q.2.1 q.2.2 (dC k) (dI k) := by
    refine ⟨fun k => if k = 0 then c0 else if k = 1 then c1 else c2, fun k => if k = 0 then iS0 else if k = 1 then iS1 else iS2, ?_⟩
    intro k q hq
    match k, hq with
    | 0, hq => cases hq; exact hKn0
    | 1, hq => cases hq; exact hKn1
    | 2, hq => cases hq; exact hKn2
    | k + 3, hq => simp [vwCl] at hq
  have hS : va_S (fun q : Nat => s.heap.size ≤ q) s.heap s.heap [] := va_S.rf
  have hK : va_K (dC, dI) vwCl [] s := ⟨hKc, fun k q h => by simp at h⟩
  have hP : va_P (dC, dI) vwCl [] s.heap := fun k q h => by simp at h
  have hD : va_D (fun q : Nat => s.heap.size ≤ q) [] := ⟨fun i j p q h => by simp at h, fun k q h => by simp at h⟩
  have hl := lv_entry ([.ref b]) (n := 4) (Nat.le_of_ble_eq_true rfl)
  rw [lg_entry_eq]
  generalize (lg_sl ([.ref b]) ++ List.replicate (4 - (lg_sl ([.ref b])).length) Slot.unset).toArray = ls at hl ⊢
  have hl : lv_has ls 4 [(0, .ref b)] := hl
  refine va_new (ci := 1) (fs := [.null, .null, .int 0, .null, .int 0, .int 0, .int 0, .int 0, .int 0, .int 0, .int 0, .int 0]) (C := RX1) (T := TX1) (N := 12) hx hb hts il_X1 tyX1 tyX1_ok hown (hts (.classLink RL 7 RX1) (by decide +kernel)) (hts (.instantiable RX1 12) (by decide +kernel)) (hts (.initialized RX1) (by decide +kernel)) hK hP hD hS hA rfl (fun j hj => by rcases (show j = 0 ∨ j = 1 ∨ j = 2 ∨ j = 3 ∨ j = 4 ∨ j = 5 ∨ j = 6 ∨ j = 7 ∨ j = 8 ∨ j = 9 ∨ j = 10 ∨ j = 11 by omega) with rfl | rfl | rfl | rfl | rfl | rfl | rfl | rfl | rfl | rfl | rfl | rfl <;> rfl) (Nat.le_of_ble_eq_true rfl) (Nat.le_of_ble_eq_true rfl) dL_law_0 (fun aP H hP hD hS => ?_)
  have hP : va_P (dC, dI) vwCl [(aP, .inr (1, [.null, .null, .int 0, .null, .int 0, .int 0, .int 0, .int 0, .int 0, .int 0, .int 0, .int 0]))] H := hP
  have hD : va_D (fun q : Nat => s.heap.size ≤ q) [(aP, .inr (1, [.null, .null, .int 0, .null, .int 0, .int 0, .int 0, .int 0, .int 0, .int 0, .int 0, .int 0]))] := hD
  refine W.widen (k := 1) (n := 12) (by omega) (by omega) ?_
  refine lv_dup hx hb dL_law_3 rfl ?_
  refine lv_aload_n hx hb dL_law_4 rfl (lv_at hl 0 rfl) ?_
  refine lv_iconst (v := nI 0) hx hb dL_law_5 (by decide) ?_
  refine vp_callSi (va_runS (As := [.ref b, .int (nI 0)]) (rest := [.ref aP, .ref aP]) ⟨hx, hb, hml, hown, hts⟩ (c_L_cell l b L xs (by omega)) (cwS 2 hts gl_L_cell rfl rfl rfl (by decide +kernel) ⟨Nat.le_of_ble_eq_true rfl, Nat.le_of_ble_eq_true rfl⟩) ⟨fun a U g mk q => ⟨q.1, va_X.moved (u := U) (U := U.calling g mk a) (Vm.Alike.refl U.vm) q.2⟩, fun U hU hW => ⟨rfl, by show va_X b L xs U U.heap; rw [hU]; exact va_X.moved hW.alike (va_X.kept hX (hS.2.1 b hbl hbA))⟩⟩ rfl rfl hl.1 rfl (lv_room (Nat.le_of_ble_eq_true rfl)) dL_law_6 ⟨Nat.le_of_ble_eq_true rfl, Nat.le_of_ble_eq_true rfl⟩).run (fun r er => ?_)
  subst er
  have hPc := hP.sub (ws' := [(aP, .inr (1, [.null, .null, .int 0, .null, .int 0, .int 0, .int 0, .int 0, .int 0, .int 0, .int 0, .int 0]))]) [0] rfl
  have hDc := hD.sub (ws' := [(aP, .inr (1, [.null, .null, .int 0, .null, .int 0, .int 0, .int 0, .int 0, .int 0, .int 0, .int 0, .int 0]))]) [0] (by decide) rfl
  have hKc := hK.sub (tys' := []) [] rfl
  have hFc := va_free (wc := [(aP, .inr (1, [.null, .null, .int 0, .null, .int 0, .int 0, .int 0, .int 0, .int 0, .int 0, .int 0, .int 0]))]) hD hS hA [0] rfl
  refine va_callv (va_runI (As := [.int (if 0 < L then xs 0 else nI 0)]) (rest := [.ref aP]) ⟨hx, hb, hml, hown, hts⟩ (c_P_init l dC dI aP (if 0 < L then xs 0 else nI 0) H.size) (cwI 1 hts gl_X1_init rfl rfl rfl (hts (.initialized RX1) (by decide +kernel)) (hts (.methodLink RL 15 yX1_init) (by decide +kernel)) (hts (.instanceMethod yX1_init) (by decide +kernel)) rfl (by decide +kernel) ⟨Nat.le_of_ble_eq_true rfl, Nat.le_of_ble_eq_true rfl⟩) ⟨fun a U g mk q => by obtain ⟨q0, q1, qP, qK, qD⟩ := q; exact ⟨q0, q1, qP, va_K.moved (u := U) (U := U.calling g mk a) (Vm.Alike.refl U.vm) qK, qD⟩, fun U hU hW => ⟨rfl, by rw [hU], by rw [hU]; exact hPc, va_K.moved hW.alike hKc, hDc.weaken (fun _ _ _ _ => trivial)⟩⟩ rfl rfl hl.1 rfl (lv_room (Nat.le_of_ble_eq_true rfl)) dL_law_9 ⟨Nat.le_of_ble_eq_true rfl, Nat.le_of_ble_eq_true rfl⟩) hS (fun q _ h => hFc q h) hFc (fun u t H1 locs ht hvm hw hB hz1 hk1 hS => ?_)
  obtain ⟨R, rfl⟩ : ∃ R, R = u := ⟨_, rfl⟩
  obtain ⟨hRe, hRR⟩ := hw
  obtain ⟨aR, aB, aS, aT, aX, aO, cB, cS, cT, cX, cO, hP1, hK1, hD1⟩ := hB
  rw [ht] at hP1
  have hK1 := va_K.moved hvm.symm hK1
  obtain ⟨hP, hD⟩ := va_join (wr := []) (w1 := [(aP, .inr (1, [.ref aR, .ref aX, .int 0, .ref aO, .int 0, .int 0, .int 0, .int 0, .int 0, .int 0, .int 0, .int 0])), (aR, .inr (0, [.int (nI R), .ref aB, .ref aS, .ref aT, .int 0, .int 0, .int 0, .int 0])), (aB, .inl (cB, R, .inl (fun _ => 0))), (aS, .inl (cS, R, .inl (fun _ => 0))), (aT, .inl (cT, R, .inl (fun _ => 0))), (aX, .inl (cX, 512, .inl (fun _ => 0))), (aO, .inl (cO, 512, .inl (fun _ => 0)))]) hP hD [0] [] rfl rfl (by decide) (by decide) hk1 hFc hP1 hD1
  have hK := (hK.sub (tys' := []) [] rfl).app hK1
  generalize H1 = H at hP hS ⊢
  have hP : va_P (dC, dI) vwCl [(aP, .inr (1, [.ref aR, .ref aX, .int 0, .ref aO, .int 0, .int 0, .int 0, .int 0, .int 0, .int 0, .int 0, .int 0])), (aR, .inr (0, [.int (nI R), .ref aB, .ref aS, .ref aT, .int 0, .int 0, .int 0, .int 0])), (aB, .inl (cB, R, .inl (fun _ => 0))), (aS, .inl (cS, R, .inl (fun _ => 0))), (aT, .inl (cT, R, .inl (fun _ => 0))), (aX, .inl (cX, 512, .inl (fun _ => 0))), (aO, .inl (cO, 512, .inl (fun _ => 0)))] H := hP
  have hD : va_D (fun q : Nat => s.heap.size ≤ q) [(aP, .inr (1, [.ref aR, .ref aX, .int 0, .ref aO, .int 0, .int 0, .int 0, .int 0, .int 0, .int 0, .int 0, .int 0])), (aR, .inr (0, [.int (nI R), .ref aB, .ref aS, .ref aT, .int 0, .int 0, .int 0, .int 0])), (aB, .inl (cB, R, .inl (fun _ => 0))), (aS, .inl (cS, R, .inl (fun _ => 0))), (aT, .inl (cT, R, .inl (fun _ => 0))), (aX, .inl (cX, 512, .inl (fun _ => 0))), (aO, .inl (cO, 512, .inl (fun _ => 0)))] := hD
  have hK : va_K (dC, dI) vwCl [(cB, .byte), (cS, .int), (cT, .int), (cX, .byte), (cO, .byte)] s := hK
  refine W.widen (k := 7) (n := 50196) (by omega) (by omega) ?_
  refine lv_astore_n (lv' := [(1, .ref aP), (0, .ref b)]) hx hb dL_law_12 rfl hl (by decide) rfl (fun ls hl => ?_)
  refine va_new (ci := 2) (fs := [.int 0, .int 0, .null, .int 0, .null, .int 0, .int 0, .null, .null, .null, .int 0, .int 0, .int 0, .int 0, .int 0, .int 0, .int 0, .int 0]) (C := RM) (T := TM) (N := 18) hx hb hts il_M tyM tyM_ok hown (hts (.classLink RL 18 RM) (by decide +kernel)) (hts (.instantiable RM 18) (by decide +kernel)) (hts (.initialized RM) (by decide +kernel)) hK hP hD hS hA rfl (fun j hj => by rcases (show j = 0 ∨ j = 1 ∨ j = 2 ∨ j = 3 ∨ j = 4 ∨ j = 5 ∨ j = 6 ∨ j = 7 ∨ j = 8 ∨ j = 9 ∨ j = 10 ∨ j = 11 ∨ j = 12 ∨ j = 13 ∨ j = 14 ∨ j = 15 ∨ j = 16 ∨ j = 17 by omega) with rfl | rfl | rfl | rfl | rfl | rfl | rfl | rfl | rfl | rfl | rfl | rfl | rfl | rfl | rfl | rfl | rfl | rfl <;> rfl) (Nat.le_of_ble_eq_true rfl) (Nat.le_of_ble_eq_true rfl) dL_law_13 (fun mM H hP hD hS => ?_)
  have hP : va_P (dC, dI) vwCl [(aP, .inr (1, [.ref aR, .ref aX, .int 0, .ref aO, .int 0, .int 0, .int 0, .int 0, .int 0, .int 0, .int 0, .int 0])), (aR, .inr (0, [.int (nI R), .ref aB, .ref aS, .ref aT, .int 0, .int 0, .int 0, .int 0])), (aB, .inl (cB, R, .inl (fun _ => 0))), (aS, .inl (cS, R, .inl (fun _ => 0))), (aT, .inl (cT, R, .inl (fun _ => 0))), (aX, .inl (cX, 512, .inl (fun _ => 0))), (aO, .inl (cO, 512, .inl (fun _ => 0))), (mM, .inr (2, [.int 0, .int 0, .null, .int 0, .null, .int 0, .int 0, .null, .null, .null, .int 0, .int 0, .int 0, .int 0, .int 0, .int 0, .int 0, .int 0]))] H := hP
  have hD : va_D (fun q : Nat => s.heap.size ≤ q) [(aP, .inr (1, [.ref aR, .ref aX, .int 0, .ref aO, .int 0, .int 0, .int 0, .int 0, .int 0, .int 0, .int 0, .int 0])), (aR, .inr (0, [.int (nI R), .ref aB, .ref aS, .ref aT, .int 0, .int 0, .int 0, .int 0])), (aB, .inl (cB, R, .inl (fun _ => 0))), (aS, .inl (cS, R, .inl (fun _ => 0))), (aT, .inl (cT, R, .inl (fun _ => 0))), (aX, .inl (cX, 512, .inl (fun _ => 0))), (aO, .inl (cO, 512, .inl (fun _ => 0))), (mM, .inr (2, [.int 0, .int 0, .null, .int 0, .null, .int 0, .int 0, .null, .null, .null, .int 0, .int 0, .int 0, .int 0, .int 0, .int 0, .int 0, .int 0]))] := hD
  refine W.widen (k := 8) (n := 50214) (by omega) (by omega) ?_
  refine lv_dup hx hb dL_law_16 rfl ?_
  refine lv_aload_n hx hb dL_law_17 rfl (lv_at hl 1 rfl) ?_
  refine lv_iconst (v := nI 0) hx hb dL_law_18 (by decide) ?_
  refine vp_callSi (va_runS (As := [.ref b, .int (nI 0)]) (rest := [.ref mM, .ref mM]) ⟨hx, hb, hml, hown, hts⟩ (c_L_cell l b L xs (by omega)) (cwS 2 hts gl_L_cell rfl rfl rfl (by decide +kernel) ⟨Nat.le_of_ble_eq_true rfl, Nat.le_of_ble_eq_true rfl⟩) ⟨fun a U g mk q => ⟨q.1, va_X.moved (u := U) (U := U.calling g mk a) (Vm.Alike.refl U.vm) q.2⟩, fun U hU hW => ⟨rfl, by show va_X b L xs U U.heap; rw [hU]; exact va_X.moved hW.alike (va_X.kept hX (hS.2.1 b hbl hbA))⟩⟩ rfl rfl hl.1 rfl (lv_room (Nat.le_of_ble_eq_true rfl)) dL_law_19 ⟨Nat.le_of_ble_eq_true rfl, Nat.le_of_ble_eq_true rfl⟩).run (fun r er => ?_)
  subst er
  have hPc := hP.sub (ws' := [(mM, .inr (2, [.int 0, .int 0, .null, .int 0, .null, .int 0, .int 0, .null, .null, .null, .int 0, .int 0, .int 0, .int 0, .int 0, .int 0, .int 0, .int 0]))]) [7] rfl
  have hDc := hD.sub (ws' := [(mM, .inr (2, [.int 0, .int 0, .null, .int 0, .null, .int 0, .int 0, .null, .null, .null, .int 0, .int 0, .int 0, .int 0, .int 0, .int 0, .int 0, .int 0]))]) [7] (by decide) rfl
  have hKc := hK.sub (tys' := []) [] rfl
  have hFc := va_free (wc := [(mM, .inr (2, [.int 0, .int 0, .null, .int 0, .null, .int 0, .int 0, .null, .null, .null, .int 0, .int 0, .int 0, .int 0, .int 0, .int 0, .int 0, .int 0]))]) hD hS hA [7] rfl
  refine va_callv (va_runI (As := [.int (if 0 < L then xs 0 else nI 0)]) (rest := [.ref mM]) ⟨hx, hb, hml, hown, hts⟩ (c_M_init l dC dI mM (if 0 < L then xs 0 else nI 0) H.size) (cwI 1 hts gl_M_init rfl rfl rfl (hts (.initialized RM) (by decide +kernel)) (hts (.methodLink RL 20 yM_init) (by decide +kernel)) (hts (.instanceMethod yM_init) (by decide +kernel)) rfl (by decide +kernel) ⟨Nat.le_of_ble_eq_true rfl, Nat.le_of_ble_eq_true rfl⟩) ⟨fun a U g mk q => by obtain ⟨q0, q1, qP, qK, qD⟩ := q; exact ⟨q0, q1, qP, va_K.moved (u := U) (U := U.calling g mk a) (Vm.Alike.refl U.vm) qK, qD⟩, fun U hU hW => ⟨rfl, by rw [hU], by rw [hU]; exact hPc, va_K.moved hW.alike hKc, hDc.weaken (fun _ _ _ _ => trivial)⟩⟩ rfl rfl hl.1 rfl (lv_room (Nat.le_of_ble_eq_true rfl)) dL_law_22 ⟨Nat.le_of_ble_eq_true rfl, Nat.le_of_ble_eq_true rfl⟩) hS (fun q _ h => hFc q h) hFc (fun u t H1 locs ht hvm hw hB hz1 hk1 hS => ?_)
  obtain ⟨mX, mO, mT, mS, mB, eX, eO, eT, eS, eB, hP1, hK1, hD1⟩ := hB
  rw [ht] at hP1
  have hK1 := va_K.moved hvm.symm hK1
  obtain ⟨hP, hD⟩ := va_join (wr := [(aP, .inr (1, [.ref aR, .ref aX, .int 0, .ref aO, .int 0, .int 0, .int 0, .int 0, .int 0, .int 0, .int 0, .int 0])), (aR, .inr (0, [.int (nI R), .ref aB, .ref aS, .ref aT, .int 0, .int 0, .int 0, .int 0])), (aB, .inl (cB, R, .inl (fun _ => 0))), (aS, .inl (cS, R, .inl (fun _ => 0))), (aT, .inl (cT, R, .inl (fun _ => 0))), (aX, .inl (cX, 512, .inl (fun _ => 0))), (aO, .inl (cO, 512, .inl (fun _ => 0)))]) (w1 := [(mM, .inr (2, [.int 0, .int (nI (md_room (if 0 < L then xs 0 else nI 0))), .ref mX, .int 0, .ref mO, .int 0, .int 0, .ref mT, .ref mS, .ref mB, .int 0, .int 0, .int 0, .int 0, .int 0, .int 0, .int 0, .int 0])), (mX, .inl (eX, 512, .inl (fun _ => 0))), (mO, .inl (eO, 512, .inl (fun _ => 0))), (mT, .inl (eT, 16384, .inl (fun _ => 0))), (mS, .inl (eS, 16384, .inl (fun _ => 0))), (mB, .inl (eB, 16384, .inl (fun _ => 0)))]) hP hD [7] [0, 1, 2, 3, 4, 5, 6] rfl rfl (by decide) (by decide) hk1 hFc hP1 hD1
  have hK := (hK.sub (tys' := [(cB, .byte), (cS, .int), (cT, .int), (cX, .byte), (cO, .byte)]) [0, 1, 2, 3, 4] rfl).app hK1
  generalize H1 = H at hP hS ⊢
  rw [← hRe] at hP hD
  have hP : va_P (dC, dI) vwCl [(aP, .inr (1, [.ref aR, .ref aX, .int 0, .ref aO, .int 0, .int 0, .int 0, .int 0, .int 0, .int 0, .int 0, .int 0])), (aR, .inr (0, [.int (nI R), .ref aB, .ref aS, .ref aT, .int 0, .int 0, .int 0, .int 0])), (aB, .inl (cB, R, .inl (fun _ => 0))), (aS, .inl (cS, R, .inl (fun _ => 0))), (aT, .inl (cT, R, .inl (fun _ => 0))), (aX, .inl (cX, 512, .inl (fun _ => 0))), (aO, .inl (cO, 512, .inl (fun _ => 0))), (mM, .inr (2, [.int 0, .int (nI R), .ref mX, .int 0, .ref mO, .int 0, .int 0, .ref mT, .ref mS, .ref mB, .int 0, .int 0, .int 0, .int 0, .int 0, .int 0, .int 0, .int 0])), (mX, .inl (eX, 512, .inl (fun _ => 0))), (mO, .inl (eO, 512, .inl (fun _ => 0))), (mT, .inl (eT, 16384, .inl (fun _ => 0))), (mS, .inl (eS, 16384, .inl (fun _ => 0))), (mB, .inl (eB, 16384, .inl (fun _ => 0)))] H := hP
  have hD : va_D (fun q : Nat => s.heap.size ≤ q) [(aP, .inr (1, [.ref aR, .ref aX, .int 0, .ref aO, .int 0, .int 0, .int 0, .int 0, .int 0, .int 0, .int 0, .int 0])), (aR, .inr (0, [.int (nI R), .ref aB, .ref aS, .ref aT, .int 0, .int 0, .int 0, .int 0])), (aB, .inl (cB, R, .inl (fun _ => 0))), (aS, .inl (cS, R, .inl (fun _ => 0))), (aT, .inl (cT, R, .inl (fun _ => 0))), (aX, .inl (cX, 512, .inl (fun _ => 0))), (aO, .inl (cO, 512, .inl (fun _ => 0))), (mM, .inr (2, [.int 0, .int (nI R), .ref mX, .int 0, .ref mO, .int 0, .int 0, .ref mT, .ref mS, .ref mB, .int 0, .int 0, .int 0, .int 0, .int 0, .int 0, .int 0, .int 0])), (mX, .inl (eX, 512, .inl (fun _ => 0))), (mO, .inl (eO, 512, .inl (fun _ => 0))), (mT, .inl (eT, 16384, .inl (fun _ => 0))), (mS, .inl (eS, 16384, .inl (fun _ => 0))), (mB, .inl (eB, 16384, .inl (fun _ => 0)))] := hD
  have hK : va_K (dC, dI) vwCl [(cB, .byte), (cS, .int), (cT, .int), (cX, .byte), (cO, .byte), (eX, .byte), (eO, .byte), (eT, .int), (eS, .int), (eB, .byte)] s := hK
  refine W.widen (k := 13) (n := 100390) (by omega) (by omega) ?_
  refine lv_astore_n (lv' := [(2, .ref mM), (1, .ref aP), (0, .ref b)]) hx hb dL_law_25 rfl hl (by decide) rfl (fun ls hl => ?_)
  refine lv_iconst (v := nI 1) hx hb dL_law_26 (by decide) ?_
  refine lv_istore_n (lv' := [(3, .int (nI 1)), (2, .ref mM), (1, .ref aP), (0, .ref b)]) hx hb dL_law_27 rfl hl (by decide) rfl (fun ls hl => ?_)
  refine law_loop (R := R) hL C0 hK (L + 1) 1 _ _ _ ⟨Nat.le_refl 1, by omega, by omega, 0, 0, fun _ => 0, 0, 0, 0, 0, 0, 0, 0, 0, fun _ => 0, fun _ => 0, fun _ => 0, fun _ => 0, fun _ => 0, fun _ => 0, fun _ => 0, fun _ => 0, fun _ => 0, fun _ => 0, fun _ => 0, fun _ => 0, fun _ => 0, fun _ => 0, ?_, hP, hD, hS, lv_sub hl [3, 2, 1, 0] rfl⟩
  refine ⟨⟨hRR, Nat.le_refl 0, Nat.zero_le _, fun i _ h => absurd h (Nat.not_lt_zero i)⟩, ⟨fun i _ h => absurd h (Nat.not_lt_zero i), fun i _ h => absurd h (Nat.not_lt_zero i), fun q _ h => absurd h (Nat.not_lt_zero q)⟩, ⟨fun t h => absurd h (Nat.not_lt_zero t), fun t h => absurd h (Nat.not_lt_zero t), fun t h => absurd h (Nat.not_lt_zero t)⟩, fun i _ h => absurd h (Nat.not_lt_zero i), ⟨Nat.le_refl 0, Nat.zero_le _⟩, ⟨Nat.zero_le _, fun t h => absurd h (Nat.not_lt_zero t), fun t h => absurd h (Nat.not_lt_zero t)⟩, ⟨Nat.zero_le _, fun t h => absurd h (Nat.not_lt_zero t), fun t h => absurd h (Nat.not_lt_zero t)⟩, Nat.zero_le 1⟩
