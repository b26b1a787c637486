set_option maxHeartbeats 4000000 in
set_option maxRecDepth 100000 in
/-- cell(s, 0): the script's first int, or 0 -/
theorem c_L_cell (l : Launch) (b L : Nat) (xs : Nat → Int32) (hL : L < 2 ^ 31) : Met l yL_cell wsL_cell ({ frames := 0, cells := 0, slots := 0, locals := 0 }) (va_Pc [.ref b, .int (nI 0)] (fun U => va_X b L xs U U.heap)) (vp_Si (fun r => r = if 0 < L then xs 0 else nI 0)) 0 0 (fun _ => False) := by
  refine Met.ofW (cc := cL_cell) (maxL := 2) (ret := (some .int)) (by decide) rfl ?_
  intro p e s m args below meth c s₁ B hml hv
  obtain ⟨rfl, hX⟩ := hv
  have hx := B.exec
  have hb := B.bytes
  have hr := B.returns
  have hlocks := B.notSynchronized
  have hbl : b < s.heap.size := by
    obtain ⟨scr, h1, -⟩ := hX
    exact (Array.getElem?_eq_some_iff.mp h1).1
  have hbA : ¬ (fun _ : Nat => False) b := id
  have hS : va_S (fun _ : Nat => False) s.heap s.heap [] := va_S.rf
  have hl := lv_entry ([.ref b, .int (nI 0)]) (n := 2) (Nat.le_of_ble_eq_true rfl)
  rw [lg_entry_eq]
  generalize (lg_sl ([.ref b, .int (nI 0)]) ++ List.replicate (2 - (lg_sl ([.ref b, .int (nI 0)])).length) Slot.unset).toArray = ls at hl ⊢
  have hl : lv_has ls 2 [(0, .ref b), (1, .int (nI 0))] := hl
  refine lv_iload_n hx hb dL_cell_0 rfl (lv_at hl 1 rfl) ?_
  refine lv_aload_n hx hb dL_cell_1 rfl (lv_at hl 0 rfl) ?_
  refine va_slen hx hb hX hbl hbA hS dL_cell_2 ?_
  refine zz_as (nI L) rfl ?_
  refine zz_icmp_ge (a := 0) (b := L) (tgt := 12) hx hb dL_cell_3 (by decide) (by decide) hL (fun c3 => ?_) (fun c3 => ?_)
  · refine lv_iconst (v := nI 0) hx hb dL_cell_12 (by decide) ?_
    exact W.iret (v := nI 0) hx hb hr (fun t ht hW => ⟨_, rfl, by rw [if_neg (Nat.not_lt.mpr c3)], ht⟩) (fun q hq => by cases hq) dL_cell_13
  · refine lv_aload_n hx hb dL_cell_6 rfl (lv_at hl 0 rfl) ?_
    refine lv_iload_n hx hb dL_cell_7 rfl (lv_at hl 1 rfl) ?_
    refine zz_sld hx hb hX hbl hbA hS (j := 0) c3 hL dL_cell_8 ?_
    refine lv_goto (tgt := 13) hx hb dL_cell_9 (by decide) ?_
    exact W.iret (v := xs 0) hx hb hr (fun t ht hW => ⟨_, rfl, by rw [if_pos c3], ht⟩) (fun q hq => by cases hq) dL_cell_13
set_option maxHeartbeats 8000000 in
set_option maxRecDepth 100000 in
/-- the law's loop -/
theorem law_loop {p : Program} {l : Launch} {e : Env} {s : State} {m : MethodId} {below : List Frame} {meth : Method} {c : Code} {dC : Nat → ClassId} {dI : Nat → Nat → Nat} {b L : Nat} {xs : Nat → Int32} (hL : L ≤ 1537) (C0 : lw_At p s m meth c b L xs) {aP aR aB aS aT aX aO mM mX mO mT mS mB : Nat} {cB cS cT cX cO eX eO eT eS eB : ClassId} {R : Nat} (hK : va_K (dC, dI) vwCl [(cB, .byte), (cS, .int), (cT, .int), (cX, .byte), (cO, .byte), (eX, .byte), (eO, .byte), (eT, .int), (eS, .int), (eB, .byte)] s) : ∀ (n : Nat) (i : Nat) (H : Heap) (locs : List Loc) (ls : Array Slot), (1 ≤ i ∧ i ≤ L + 1 ∧ L + 2 ≤ i + n ∧ LI dC dI s b aP aR aB aS aT aX aO mM mX mO mT mS mB cB cS cT cX cO eX eO eT eS eB R i i H locs ls) → W p l e room_1 s m #[Value.ref b] below meth c H locs 13 100390 (lw_Z below #[Value.ref b] s) (F0 m 28 ls []) := by
  obtain ⟨hx, hb, hr, hml, hown, hts, hX, hbl, hlocks, hgv⟩ := id C0
  have hbA : ¬ (fun q : Nat => s.heap.size ≤ q) b := Nat.not_le.mpr hbl
  intro n
  induction n with
  | zero =>
    intro i H locs ls h
    obtain ⟨h1, h2, h3, -⟩ := h
    omega
  | succ n ih =>
    intro i H locs ls h
    obtain ⟨h1, h2, h3, hI⟩ := h
    obtain ⟨lo, hi, off, ts, os, uw, fr, to, pa, dr, de, tm, bz, tz, oz, Bf, Sf, Tf, Xf, Of, Bm, Sm, Tm, Xm, Om, hinv, hP, hD, hS, hl⟩ := id hI
    refine lv_iload_n hx hb dL_law_28 rfl (lv_at hl 3 rfl) ?_
    refine lv_aload_n hx hb dL_law_29 rfl (lv_at hl 0 rfl) ?_
    refine va_slen hx hb hX hbl hbA hS dL_law_30 ?_
    refine zz_as (nI L) rfl ?_
    refine lv_iconst (v := nI 3) hx hb dL_law_31 (by decide) ?_
    refine lv_isub hx hb dL_law_32 ?_
    refine lv_icmp_gt (tgt := 352) hx hb dL_law_33 (by decide) (fun c33 => ?_) (fun c33 => ?_)
    · refine lv_iconst (v := 1) hx hb dL_law_352 (by decide) ?_
      refine va_forget (fun q hq => hS.2.2 q hq) ?_
      refine W.widen (k := 600000) (n := 7302250) (by decide) (by decide) ?_
      exact lw_ret hx hb hr hlocks dL_law_353
    · have hi3 : i + 3 ≤ L := by
        have h9 := mt (rg_lt3 (a := L) (b := 3) (c := i) (by omega) (by omega) (by omega)).mpr c33
        omega
      have K : ∀ (H : Heap) (locs : List Loc) (ls : Array Slot), LI dC dI s b aP aR aB aS aT aX aO mM mX mO mT mS mB cB cS cT cX cO eX eO eT eS eB R (i + 1) i H locs ls → W p l e room_1 s m #[Value.ref b] below meth c H locs 13 100390 (lw_Z below #[Value.ref b] s) (F0 m 346 ls []) := by
        intro H locs ls hJ
        obtain ⟨lo, hi, off, ts, os, uw, fr, to, pa, dr, de, tm, bz, tz, oz, Bf, Sf, Tf, Xf, Of, Bm, Sm, Tm, Xm, Om, hinv, hP, hD, hS, hl⟩ := hJ
        refine lv_iinc (v := nI (i + 3)) (lv' := [(3, .int (nI (i + 3))), (0, .ref b), (1, .ref aP), (2, .ref mM)]) hx hb dL_law_346 hl (k := 3) rfl (show nI i + nI 3 = nI (i + 3) from nI_add _ _) (by decide) rfl (fun ls hl => ?_)
        refine lv_goto (tgt := 28) hx hb dL_law_349 (by decide) ?_
        obtain ⟨a1, a2, a3, a4, ⟨a5, a6⟩, a7⟩ := hinv
        exact ih (i + 3) _ _ _ ⟨by omega, by omega, by omega, lo, hi, off, ts, os, uw, fr, to, pa, dr, de, tm, bz, tz, oz, Bf, Sf, Tf, Xf, Of, Bm, Sm, Tm, Xm, Om, ⟨a1, a2, a3, a4, ⟨a5, by omega⟩, a7⟩, hP, hD, hS, lv_sub hl [1, 2, 3, 0] rfl⟩
      refine lv_aload_n hx hb dL_law_36 rfl (lv_at hl 0 rfl) ?_
      refine lv_iload_n hx hb dL_law_37 rfl (lv_at hl 3 rfl) ?_
      refine zz_sld hx hb hX hbl hbA hS (j := i) (by omega) (by omega) dL_law_38 ?_
      refine lv_bipush (v := nI 15) hx hb dL_law_39 (by decide) ?_
      refine lv_iand hx hb dL_law_41 ?_
      obtain ⟨k, hk, ek⟩ := pk_andE (xs i) (m := nI 15) 4 (by decide)
      refine zz_as (nI k) ek ?_
      rcases (show k = 0 ∨ k = 1 ∨ k = 2 ∨ k = 3 ∨ k = 4 ∨ k = 5 ∨ k = 6 ∨ k = 7 ∨ k = 8 ∨ k = 9 ∨ 10 ≤ k by omega) with rfl | rfl | rfl | rfl | rfl | rfl | rfl | rfl | rfl | rfl | h10
      · refine lv_tableIn (off := 54) (tgt := 96) hx hb dL_law_42 (by decide) (by decide) (by decide) (by decide) ?_
        exact law_put hL C0 hK hi3 K hI
      · refine lv_tableIn (off := 77) (tgt := 119) hx hb dL_law_42 (by decide) (by decide) (by decide) (by decide) ?_
        exact law_keep hL C0 hK hi3 K hI
      · refine lv_tableIn (off := 100) (tgt := 142) hx hb dL_law_42 (by decide) (by decide) (by decide) (by decide) ?_
        exact law_delete hL C0 hK hi3 K hI
      · refine lv_tableIn (off := 123) (tgt := 165) hx hb dL_law_42 (by decide) (by decide) (by decide) (by decide) ?_
        exact law_begin hL C0 hK hi3 K hI
      · refine lv_tableIn (off := 156) (tgt := 198) hx hb dL_law_42 (by decide) (by decide) (by decide) (by decide) ?_
        exact law_stop hL C0 hK hi3 K hI
      · refine lv_tableIn (off := 169) (tgt := 211) hx hb dL_law_42 (by decide) (by decide) (by decide) (by decide) ?_
        exact law_next hL C0 hK hi3 K hI
      · refine lv_tableIn (off := 192) (tgt := 234) hx hb dL_law_42 (by decide) (by decide) (by decide) (by decide) ?_
        exact law_out hL C0 hK hi3 K hI
      · refine lv_tableIn (off := 215) (tgt := 257) hx hb dL_law_42 (by decide) (by decide) (by decide) (by decide) ?_
        exact law_count hL C0 hK hi3 K hI
      · refine lv_tableIn (off := 238) (tgt := 280) hx hb dL_law_42 (by decide) (by decide) (by decide) (by decide) ?_
        exact law_about hL C0 hK hi3 K hI
      · refine lv_tableIn (off := 271) (tgt := 313) hx hb dL_law_42 (by decide) (by decide) (by decide) (by decide) ?_
        exact law_byteAt hL C0 hK hi3 K hI
      · refine lv_tableOut (tgt := 346) hx hb dL_law_42 (Or.inr (by rw [nI_toInt (by omega)]; omega)) (by decide) ?_
        obtain ⟨a1, a2, a3, a4, ⟨a5, a6⟩, a7⟩ := hinv
        exact K _ _ _ ⟨lo, hi, off, ts, os, uw, fr, to, pa, dr, de, tm, bz, tz, oz, Bf, Sf, Tf, Xf, Of, Bm, Sm, Tm, Xm, Om, ⟨a1, a2, a3, a4, ⟨a5, by omega⟩, a7⟩, hP, hD, hS, hl⟩
