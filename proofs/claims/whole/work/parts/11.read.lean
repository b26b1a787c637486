set_option maxHeartbeats 4000000 in
set_option maxRecDepth 100000 in
/-- count(what) -/
theorem c_P_count (l : Launch) (dC : Nat → ClassId) (dI : Nat → Nat → Nat) (aP aR aX aO ts os uw : Nat) (fr to : Int32) (pw co dr de : Nat) (aB aS aT R o n en us : Nat) (what : Int32) (huw : uw ≤ 1) : Met l yX1_count wsX1_count ({ frames := 1, cells := 0, slots := 0, locals := 20 }) (va_Pc [.ref aP, .int what] (fun U => va_P (dC, dI) vwCl [(aP, .inr (1, [.ref aR, .ref aX, .int (nI ts), .ref aO, .int (nI os), .int (nI uw), .int fr, .int to, .int (nI pw), .int (nI co), .int (nI dr), .int (nI de)])), (aR, .inr (0, [.int (nI R), .ref aB, .ref aS, .ref aT, .int (nI o), .int (nI n), .int (nI en), .int (nI us)]))] U.heap ∧ va_K (dC, dI) vwCl [] U)) (vp_Si (fun r => r = md_count what n us co dr de uw os R)) 0 0 (fun _ => False) := by
  refine Met.ofW (cc := cX1_count) (maxL := 2) (ret := (some .int)) (by decide) rfl ?_
  intro p e s m args below meth c s₁ B hml hv
  obtain ⟨rfl, hP, hK⟩ := hv
  have hx := B.exec
  have hb := B.bytes
  have hr := B.returns
  have hts := atoms_spec (ws := wsX1_count) B.pre
  have hown : s.vm.findClass RX1 = some m.cls := findClass_of_methodNamed B.named
  have hlocks := B.notSynchronized
  have hi_P : ∀ w ∈ u_ws RX1 TX1 12, w ∈ wsX1_count := by decide +kernel
  have hP : va_P (dC, dI) vwCl [(aP, .inr (1, [.ref aR, .ref aX, .int (nI ts), .ref aO, .int (nI os), .int (nI uw), .int fr, .int to, .int (nI pw), .int (nI co), .int (nI dr), .int (nI de)])), (aR, .inr (0, [.int (nI R), .ref aB, .ref aS, .ref aT, .int (nI o), .int (nI n), .int (nI en), .int (nI us)]))] s.heap := hP
  have hl := lv_entry ([.ref aP, .int what]) (n := 2) (Nat.le_of_ble_eq_true rfl)
  rw [lg_entry_eq]
  generalize (lg_sl ([.ref aP, .int what]) ++ List.replicate (2 - (lg_sl ([.ref aP, .int what])).length) Slot.unset).toArray = ls at hl ⊢
  have hl : lv_has ls 2 [(0, .ref aP), (1, .int what)] := hl
  refine lv_iload_n hx hb dX1_count_0 rfl (lv_at hl 1 rfl) ?_
  rcases zz_sw what 8 (by decide) with ⟨k9, hk9, e9⟩ | h9
  · rcases (show k9 = 0 ∨ k9 = 1 ∨ k9 = 2 ∨ k9 = 3 ∨ k9 = 4 ∨ k9 = 5 ∨ k9 = 6 ∨ k9 = 7 by omega) with rfl | rfl | rfl | rfl | rfl | rfl | rfl | rfl <;> subst e9
    · refine lv_tableIn (off := 47) (tgt := 48) hx hb dX1_count_1 (by decide) (by decide) (by decide) (by decide) ?_
      refine lv_aload_n hx hb dX1_count_48 rfl (lv_at hl 0 rfl) ?_
      refine va_get (D := (dC, dI)) (ci := 1) (v := .ref aR) (C := RX1) (T := TX1) (N := 12) hx hb hts hi_P hown hK hP 0 rfl rfl 0 (by decide) (hts (.fieldLink RX1 23 "PacketStore" "ring" "LPacketStore$Ring;") (by decide +kernel)) (fun _ h9 => h9) rfl dX1_count_49 ?_
      refine zz_callR (As := []) (rest := []) ⟨hx, hb, hml, hown, hts⟩ (c_R_packets l dC dI aR aB aS aT R o n en us) (cwV 0 hts gX1_count_X0_packets rfl rfl rfl (by decide +kernel) ⟨Nat.le_of_ble_eq_true rfl, Nat.le_of_ble_eq_true rfl⟩) (hP.sub [1] rfl) (hK.sub [] rfl) 0 rfl rfl rfl rfl hl.1 rfl (Nat.le_of_ble_eq_true rfl) dX1_count_52 ⟨Nat.zero_le _, Nat.zero_le _⟩ (fun r52 e52 => ?_)
      subst e52
      exact W.iret (v := (nI n)) hx hb hr (fun t ht hW => ⟨_, rfl, by unfold md_count; rw [if_pos rfl], ht⟩) (fun q hq => by cases hq) dX1_count_55
    · refine lv_tableIn (off := 55) (tgt := 56) hx hb dX1_count_1 (by decide) (by decide) (by decide) (by decide) ?_
      refine lv_aload_n hx hb dX1_count_56 rfl (lv_at hl 0 rfl) ?_
      refine va_get (D := (dC, dI)) (ci := 1) (v := .ref aR) (C := RX1) (T := TX1) (N := 12) hx hb hts hi_P hown hK hP 0 rfl rfl 0 (by decide) (hts (.fieldLink RX1 23 "PacketStore" "ring" "LPacketStore$Ring;") (by decide +kernel)) (fun _ h9 => h9) rfl dX1_count_57 ?_
      refine zz_callR (As := []) (rest := []) ⟨hx, hb, hml, hown, hts⟩ (c_R_used l dC dI aR aB aS aT R o n en us) (cwV 0 hts gX1_count_X0_used rfl rfl rfl (by decide +kernel) ⟨Nat.le_of_ble_eq_true rfl, Nat.le_of_ble_eq_true rfl⟩) (hP.sub [1] rfl) (hK.sub [] rfl) 0 rfl rfl rfl rfl hl.1 rfl (Nat.le_of_ble_eq_true rfl) dX1_count_60 ⟨Nat.zero_le _, Nat.zero_le _⟩ (fun r60 e60 => ?_)
      subst e60
      exact W.iret (v := (nI us)) hx hb hr (fun t ht hW => ⟨_, rfl, by unfold md_count; rw [if_neg (by decide), if_pos rfl], ht⟩) (fun q hq => by cases hq) dX1_count_63
    · refine lv_tableIn (off := 63) (tgt := 64) hx hb dX1_count_1 (by decide) (by decide) (by decide) (by decide) ?_
      refine lv_aload_n hx hb dX1_count_64 rfl (lv_at hl 0 rfl) ?_
      refine va_get (D := (dC, dI)) (ci := 1) (v := .int (nI co)) (C := RX1) (T := TX1) (N := 12) hx hb hts hi_P hown hK hP 0 rfl rfl 9 (by decide) (hts (.fieldLink RX1 53 "PacketStore" "come" "I") (by decide +kernel)) (fun _ h9 => h9) rfl dX1_count_65 ?_
      exact W.iret (v := (nI co)) hx hb hr (fun t ht hW => ⟨_, rfl, by unfold md_count; rw [if_neg (by decide), if_neg (by decide), if_pos rfl], ht⟩) (fun q hq => by cases hq) dX1_count_68
    · refine lv_tableIn (off := 68) (tgt := 69) hx hb dX1_count_1 (by decide) (by decide) (by decide) (by decide) ?_
      refine lv_aload_n hx hb dX1_count_69 rfl (lv_at hl 0 rfl) ?_
      refine va_get (D := (dC, dI)) (ci := 1) (v := .int (nI dr)) (C := RX1) (T := TX1) (N := 12) hx hb hts hi_P hown hK hP 0 rfl rfl 10 (by decide) (hts (.fieldLink RX1 50 "PacketStore" "drivenOut" "I") (by decide +kernel)) (fun _ h9 => h9) rfl dX1_count_70 ?_
      exact W.iret (v := (nI dr)) hx hb hr (fun t ht hW => ⟨_, rfl, by unfold md_count; rw [if_neg (by decide), if_neg (by decide), if_neg (by decide), if_pos rfl], ht⟩) (fun q hq => by cases hq) dX1_count_73
    · refine lv_tableIn (off := 73) (tgt := 74) hx hb dX1_count_1 (by decide) (by decide) (by decide) (by decide) ?_
      refine lv_aload_n hx hb dX1_count_74 rfl (lv_at hl 0 rfl) ?_
      refine va_get (D := (dC, dI)) (ci := 1) (v := .int (nI de)) (C := RX1) (T := TX1) (N := 12) hx hb hts hi_P hown hK hP 0 rfl rfl 11 (by decide) (hts (.fieldLink RX1 65 "PacketStore" "deleted" "I") (by decide +kernel)) (fun _ h9 => h9) rfl dX1_count_75 ?_
      exact W.iret (v := (nI de)) hx hb hr (fun t ht hW => ⟨_, rfl, by unfold md_count; rw [if_neg (by decide), if_neg (by decide), if_neg (by decide), if_neg (by decide), if_pos rfl], ht⟩) (fun q hq => by cases hq) dX1_count_78
    · refine lv_tableIn (off := 78) (tgt := 79) hx hb dX1_count_1 (by decide) (by decide) (by decide) (by decide) ?_
      refine lv_aload_n hx hb dX1_count_79 rfl (lv_at hl 0 rfl) ?_
      refine va_get (D := (dC, dI)) (ci := 1) (v := .int (nI uw)) (C := RX1) (T := TX1) (N := 12) hx hb hts hi_P hown hK hP 0 rfl rfl 5 (by decide) (hts (.fieldLink RX1 68 "PacketStore" "underWay" "Z") (by decide +kernel)) (fun _ h9 => h9) rfl dX1_count_80 ?_
      refine zz_if_eq (a := uw) (tgt := 90) hx hb dX1_count_83 (by decide) (by omega) (fun c83 => ?_) (fun c83 => ?_)
      · refine lv_iconst (v := nI 0) hx hb dX1_count_90 (by decide) ?_
        exact W.iret (v := (nI 0)) hx hb hr (fun t ht hW => ⟨_, rfl, by unfold md_count; rw [if_neg (by decide), if_neg (by decide), if_neg (by decide), if_neg (by decide), if_neg (by decide), if_pos rfl, c83], ht⟩) (fun q hq => by cases hq) dX1_count_91
      · refine lv_iconst (v := nI 1) hx hb dX1_count_86 (by decide) ?_
        refine lv_goto (tgt := 91) hx hb dX1_count_87 (by decide) ?_
        exact W.iret (v := (nI 1)) hx hb hr (fun t ht hW => ⟨_, rfl, by unfold md_count; rw [if_neg (by decide), if_neg (by decide), if_neg (by decide), if_neg (by decide), if_neg (by decide), if_pos rfl, show uw = 1 by omega], ht⟩) (fun q hq => by cases hq) dX1_count_91
    · refine lv_tableIn (off := 91) (tgt := 92) hx hb dX1_count_1 (by decide) (by decide) (by decide) (by decide) ?_
      refine lv_aload_n hx hb dX1_count_92 rfl (lv_at hl 0 rfl) ?_
      refine va_get (D := (dC, dI)) (ci := 1) (v := .int (nI os)) (C := RX1) (T := TX1) (N := 12) hx hb hts hi_P hown hK hP 0 rfl rfl 4 (by decide) (hts (.fieldLink RX1 91 "PacketStore" "outputSize" "I") (by decide +kernel)) (fun _ h9 => h9) rfl dX1_count_93 ?_
      exact W.iret (v := (nI os)) hx hb hr (fun t ht hW => ⟨_, rfl, by unfold md_count; rw [if_neg (by decide), if_neg (by decide), if_neg (by decide), if_neg (by decide), if_neg (by decide), if_neg (by decide), if_pos rfl], ht⟩) (fun q hq => by cases hq) dX1_count_96
    · refine lv_tableIn (off := 96) (tgt := 97) hx hb dX1_count_1 (by decide) (by decide) (by decide) (by decide) ?_
      refine lv_aload_n hx hb dX1_count_97 rfl (lv_at hl 0 rfl) ?_
      refine va_get (D := (dC, dI)) (ci := 1) (v := .ref aR) (C := RX1) (T := TX1) (N := 12) hx hb hts hi_P hown hK hP 0 rfl rfl 0 (by decide) (hts (.fieldLink RX1 23 "PacketStore" "ring" "LPacketStore$Ring;") (by decide +kernel)) (fun _ h9 => h9) rfl dX1_count_98 ?_
      refine zz_callR (As := []) (rest := []) ⟨hx, hb, hml, hown, hts⟩ (c_R_room l dC dI aR aB aS aT R o n en us) (cwV 0 hts gX1_count_X0_room rfl rfl rfl (by decide +kernel) ⟨Nat.le_of_ble_eq_true rfl, Nat.le_of_ble_eq_true rfl⟩) (hP.sub [1] rfl) (hK.sub [] rfl) 0 rfl rfl rfl rfl hl.1 rfl (Nat.le_of_ble_eq_true rfl) dX1_count_101 ⟨Nat.zero_le _, Nat.zero_le _⟩ (fun r101 e101 => ?_)
      subst e101
      exact W.iret (v := (nI R)) hx hb hr (fun t ht hW => ⟨_, rfl, by unfold md_count; rw [if_neg (by decide), if_neg (by decide), if_neg (by decide), if_neg (by decide), if_neg (by decide), if_neg (by decide), if_neg (by decide), if_pos rfl], ht⟩) (fun q hq => by cases hq) dX1_count_104
  · refine lv_tableOut (tgt := 105) hx hb dX1_count_1 (h9.elim Or.inl (fun h => Or.inr (by omega))) (by decide) ?_
    refine lv_iconst (v := (-1)) hx hb dX1_count_105 (by decide) ?_
    exact W.iret (v := ((-1))) hx hb hr (fun t ht hW => ⟨_, rfl, by unfold md_count; rw [if_neg (zz_swne h9 (k := 0) (by decide) (by decide)), if_neg (zz_swne h9 (k := 1) (by decide) (by decide)), if_neg (zz_swne h9 (k := 2) (by decide) (by decide)), if_neg (zz_swne h9 (k := 3) (by decide) (by decide)), if_neg (zz_swne h9 (k := 4) (by decide) (by decide)), if_neg (zz_swne h9 (k := 5) (by decide) (by decide)), if_neg (zz_swne h9 (k := 6) (by decide) (by decide)), if_neg (zz_swne h9 (k := 7) (by decide) (by decide))], ht⟩) (fun q hq => by cases hq) dX1_count_106
theorem zz_look {x : Int32} {a b d : Int} (h : x.toInt < 0 ∨ ((2 : Nat) : Int) - 1 < x.toInt) : Op.lookupswitch.offset [(0, a), (1, b)] d x.toInt = d := by
  have h0 : ¬ x.toInt = 0 := by omega
  have h1 : ¬ x.toInt = 1 := by omega
  simp [Op.lookupswitch.offset, h0, h1, Ne.symm h0, Ne.symm h1]
  try omega
set_option maxHeartbeats 4000000 in
set_option maxRecDepth 100000 in
/-- about(k, what) -/
theorem c_P_about (l : Launch) (dC : Nat → ClassId) (dI : Nat → Nat → Nat) (aP aR aB aS aT aX aO R lo hi : Nat) (off : Nat → Nat) (ts os uw : Nat) (fr to : Int32) (pa co dr de : Nat) (cS cT : ClassId) (Sf Tf tm : Nat → Int32) (k what : Int32) (hok : rg_ok R lo hi off) (hst : ∀ i, lo ≤ i → i < hi → Sf (i % R) = nI (off i % R)) (htm : ∀ i, lo ≤ i → i < hi → Tf (i % R) = tm i) : Met l yX1_about wsX1_about ({ frames := 3, cells := 0, slots := 0, locals := 65 }) (va_Pc [.ref aP, .int k, .int what] (fun U => va_P (dC, dI) vwCl [(aP, .inr (1, [.ref aR, .ref aX, .int (nI ts), .ref aO, .int (nI os), .int (nI uw), .int fr, .int to, .int (nI (pa - lo)), .int (nI co), .int (nI dr), .int (nI de)])), (aR, .inr (0, [.int (nI R), .ref aB, .ref aS, .ref aT, .int (nI (lo % R)), .int (nI (hi - lo)), .int (nI (off hi % R)), .int (nI (off hi - off lo))])), (aS, .inl (cS, R, .inl Sf)), (aT, .inl (cT, R, .inl Tf))] U.heap ∧ va_K (dC, dI) vwCl [(cS, .int), (cT, .int)] U)) (vp_Si (fun r => r = md_about (hi - lo) (fun j => tm (lo + j)) (fun j => off (lo + j + 1) - off (lo + j)) k what)) 0 0 (fun _ => False) := by
  refine Met.ofW (cc := cX1_about) (maxL := 3) (ret := (some .int)) (by decide) rfl ?_
  intro p e s m args below meth c s₁ B hml hv
  obtain ⟨rfl, hP, hK⟩ := hv
  have hx := B.exec
  have hb := B.bytes
  have hr := B.returns
  have hts := atoms_spec (ws := wsX1_about) B.pre
  have hown : s.vm.findClass RX1 = some m.cls := findClass_of_methodNamed B.named
  have hlocks := B.notSynchronized
  have hi_P : ∀ w ∈ u_ws RX1 TX1 12, w ∈ wsX1_about := by decide +kernel
  have hP : va_P (dC, dI) vwCl [(aP, .inr (1, [.ref aR, .ref aX, .int (nI ts), .ref aO, .int (nI os), .int (nI uw), .int fr, .int to, .int (nI (pa - lo)), .int (nI co), .int (nI dr), .int (nI de)])), (aR, .inr (0, [.int (nI R), .ref aB, .ref aS, .ref aT, .int (nI (lo % R)), .int (nI (hi - lo)), .int (nI (off hi % R)), .int (nI (off hi - off lo))])), (aS, .inl (cS, R, .inl Sf)), (aT, .inl (cT, R, .inl Tf))] s.heap := hP
  have hl := lv_entry ([.ref aP, .int k, .int what]) (n := 3) (Nat.le_of_ble_eq_true rfl)
  rw [lg_entry_eq]
  generalize (lg_sl ([.ref aP, .int k, .int what]) ++ List.replicate (3 - (lg_sl ([.ref aP, .int k, .int what])).length) Slot.unset).toArray = ls at hl ⊢
  have hl : lv_has ls 3 [(0, .ref aP), (1, .int k), (2, .int what)] := hl
  have hRR := hok.1
  have hll := hok.2.1
  have hcap := hok.2.2.1
  have hgap := hok.gap (Nat.le_refl lo) hll (Nat.le_refl hi)
  refine lv_aload_n hx hb dX1_about_0 rfl (lv_at hl 0 rfl) ?_
  refine va_get (D := (dC, dI)) (ci := 1) (v := .ref aR) (C := RX1) (T := TX1) (N := 12) hx hb hts hi_P hown hK hP 0 rfl rfl 0 (by decide) (hts (.fieldLink RX1 23 "PacketStore" "ring" "LPacketStore$Ring;") (by decide +kernel)) (fun _ h9 => h9) rfl dX1_about_1 ?_
  refine lv_iload_n hx hb dX1_about_4 rfl (lv_at hl 1 rfl) ?_
  refine zz_callR (As := [.int k]) (rest := []) ⟨hx, hb, hml, hown, hts⟩ (c_R_has l dC dI aR aB aS aT R (lo % R) (hi - lo) (off hi % R) (off hi - off lo) k (by omega)) (cwV 1 hts gX1_about_X0_has rfl rfl rfl (by decide +kernel) ⟨Nat.le_of_ble_eq_true rfl, Nat.le_of_ble_eq_true rfl⟩) (hP.sub [1] rfl) (hK.sub [] rfl) 0 rfl rfl rfl rfl hl.1 rfl (Nat.le_of_ble_eq_true rfl) dX1_about_5 ⟨Nat.zero_le _, Nat.zero_le _⟩ (fun r5 e5 => ?_)
  rcases e5 with ⟨e5, eh⟩ | ⟨e5, i, hi9, eh⟩ <;> subst e5
  · refine zz_if_ne (a := 0) (tgt := 13) hx hb dX1_about_8 (by decide) (by decide) (fun c8 => ?_) (fun c8 => ?_)
    · exact absurd rfl c8
    · refine lv_iconst (v := (-1)) hx hb dX1_about_11 (by decide) ?_
      exact W.iret (v := ((-1))) hx hb hr (fun t ht hW => ⟨_, rfl, by unfold md_about; rw [md_ix_none eh (by omega)], ht⟩) (fun q hq => by cases hq) dX1_about_12
  · subst eh
    refine zz_if_ne (a := 1) (tgt := 13) hx hb dX1_about_8 (by decide) (by decide) (fun c8 => ?_) (fun c8 => ?_)
    · refine lv_iload_n hx hb dX1_about_13 rfl (lv_at hl 2 rfl) ?_
      rcases zz_sw what 2 (by decide) with ⟨k9, hk9, e9⟩ | h9
      · rcases (show k9 = 0 ∨ k9 = 1 by omega) with rfl | rfl <;> subst e9
        · refine lv_lookup (off := 26) (tgt := 40) hx hb dX1_about_14 (by decide) (by decide) (by decide) ?_
          refine lv_aload_n hx hb dX1_about_40 rfl (lv_at hl 0 rfl) ?_
          refine va_get (D := (dC, dI)) (ci := 1) (v := .ref aR) (C := RX1) (T := TX1) (N := 12) hx hb hts hi_P hown hK hP 0 rfl rfl 0 (by decide) (hts (.fieldLink RX1 23 "PacketStore" "ring" "LPacketStore$Ring;") (by decide +kernel)) (fun _ h9 => h9) rfl dX1_about_41 ?_
          refine lv_iload_n hx hb dX1_about_44 rfl (lv_at hl 1 rfl) ?_
          refine zz_callR (As := [.int (nI i)]) (rest := []) ⟨hx, hb, hml, hown, hts⟩ (c_R_timeOf l dC dI aR aB aS aT R (lo % R) (hi - lo) (off hi % R) (off hi - off lo) cT Tf i (Nat.mod_lt _ (by omega)) (by omega) (by omega)) (cwV 1 hts gX1_about_X0_timeOf rfl rfl rfl (by decide +kernel) ⟨Nat.le_of_ble_eq_true rfl, Nat.le_of_ble_eq_true rfl⟩) (hP.sub [1, 3] rfl) (hK.sub [1] rfl) 0 rfl rfl rfl rfl hl.1 rfl (Nat.le_of_ble_eq_true rfl) dX1_about_45 ⟨Nat.zero_le _, Nat.zero_le _⟩ (fun r45 e45 => ?_)
          subst e45
          refine zz_as (tm (lo + i)) (by rw [Nat.mod_add_mod]; exact htm (lo + i) (by omega) (by omega)) ?_
          exact W.iret (v := (tm (lo + i))) hx hb hr (fun t ht hW => ⟨_, rfl, by unfold md_about; rw [md_ix_some hi9 (by omega)]; exact (if_pos rfl).symm, ht⟩) (fun q hq => by cases hq) dX1_about_48
        · refine lv_lookup (off := 35) (tgt := 49) hx hb dX1_about_14 (by decide) (by decide) (by decide) ?_
          refine lv_aload_n hx hb dX1_about_49 rfl (lv_at hl 0 rfl) ?_
          refine va_get (D := (dC, dI)) (ci := 1) (v := .ref aR) (C := RX1) (T := TX1) (N := 12) hx hb hts hi_P hown hK hP 0 rfl rfl 0 (by decide) (hts (.fieldLink RX1 23 "PacketStore" "ring" "LPacketStore$Ring;") (by decide +kernel)) (fun _ h9 => h9) rfl dX1_about_50 ?_
          refine lv_iload_n hx hb dX1_about_53 rfl (lv_at hl 1 rfl) ?_
          refine zz_callR (As := [.int (nI i)]) (rest := []) ⟨hx, hb, hml, hown, hts⟩ (c_R_sizeOf l dC dI aR aB aS aT R lo hi off (off hi - off lo) cS Sf i hok hst (by omega)) (cwV 1 hts gX1_about_X0_sizeOf rfl rfl rfl (by decide +kernel) ⟨Nat.le_of_ble_eq_true rfl, Nat.le_of_ble_eq_true rfl⟩) (hP.sub [1, 2] rfl) (hK.sub [0] rfl) 0 rfl rfl rfl rfl hl.1 rfl (Nat.le_of_ble_eq_true rfl) dX1_about_54 ⟨Nat.zero_le _, Nat.zero_le _⟩ (fun r54 e54 => ?_)
          subst e54
          exact W.iret (v := (nI (off (lo + i + 1) - off (lo + i)))) hx hb hr (fun t ht hW => ⟨_, rfl, by unfold md_about; rw [md_ix_some hi9 (by omega)]; exact ((if_neg (by decide)).trans (if_pos rfl)).symm, ht⟩) (fun q hq => by cases hq) dX1_about_57
      · refine lv_lookup (off := 44) (tgt := 58) hx hb dX1_about_14 (by decide) (zz_look h9) (by decide) ?_
        refine lv_iconst (v := (-1)) hx hb dX1_about_58 (by decide) ?_
        exact W.iret (v := ((-1))) hx hb hr (fun t ht hW => ⟨_, rfl, by unfold md_about; rw [md_ix_some hi9 (by omega)]; exact ((if_neg (zz_swne h9 (k := 0) (by decide) (by decide))).trans (if_neg (zz_swne h9 (k := 1) (by decide) (by decide)))).symm, ht⟩) (fun q hq => by cases hq) dX1_about_59
    · exact absurd c8 (by decide)
set_option maxHeartbeats 4000000 in
set_option maxRecDepth 100000 in
/-- byteAt(k, j) -/
theorem c_P_byteAt (l : Launch) (dC : Nat → ClassId) (dI : Nat → Nat → Nat) (aP aR aB aS aT aX aO R lo hi : Nat) (off : Nat → Nat) (ts os uw : Nat) (fr to : Int32) (pa co dr de : Nat) (cB cS : ClassId) (Bf Sf bz : Nat → Int32) (k j : Int32) (hok : rg_ok R lo hi off) (hst : ∀ i, lo ≤ i → i < hi → Sf (i % R) = nI (off i % R)) (hbz : ∀ q, off lo ≤ q → q < off hi → Bf (q % R) = (bz q).toInt8.toInt32) (h512 : ∀ i, lo ≤ i → i < hi → off (i + 1) - off i ≤ 512) : Met l yX1_byteAt wsX1_byteAt ({ frames := 3, cells := 0, slots := 0, locals := 65 }) (va_Pc [.ref aP, .int k, .int j] (fun U => va_P (dC, dI) vwCl [(aP, .inr (1, [.ref aR, .ref aX, .int (nI ts), .ref aO, .int (nI os), .int (nI uw), .int fr, .int to, .int (nI (pa - lo)), .int (nI co), .int (nI dr), .int (nI de)])), (aR, .inr (0, [.int (nI R), .ref aB, .ref aS, .ref aT, .int (nI (lo % R)), .int (nI (hi - lo)), .int (nI (off hi % R)), .int (nI (off hi - off lo))])), (aB, .inl (cB, R, .inl Bf)), (aS, .inl (cS, R, .inl Sf))] U.heap ∧ va_K (dC, dI) vwCl [(cB, .byte), (cS, .int)] U)) (vp_Si (fun r => r = md_byteAt (hi - lo) (fun q => off (lo + q + 1) - off (lo + q)) (fun q t => bz (off (lo + q) + t)) k j)) 0 0 (fun _ => False) := by
  refine Met.ofW (cc := cX1_byteAt) (maxL := 3) (ret := (some .int)) (by decide) rfl ?_
  intro p e s m args below meth c s₁ B hml hv
  obtain ⟨rfl, hP, hK⟩ := hv
  have hx := B.exec
  have hb := B.bytes
  have hr := B.returns
  have hts := atoms_spec (ws := wsX1_byteAt) B.pre
  have hown : s.vm.findClass RX1 = some m.cls := findClass_of_methodNamed B.named
  have hlocks := B.notSynchronized
  have hi_P : ∀ w ∈ u_ws RX1 TX1 12, w ∈ wsX1_byteAt := by decide +kernel
  have hP : va_P (dC, dI) vwCl [(aP, .inr (1, [.ref aR, .ref aX, .int (nI ts), .ref aO, .int (nI os), .int (nI uw), .int fr, .int to, .int (nI (pa - lo)), .int (nI co), .int (nI dr), .int (nI de)])), (aR, .inr (0, [.int (nI R), .ref aB, .ref aS, .ref aT, .int (nI (lo % R)), .int (nI (hi - lo)), .int (nI (off hi % R)), .int (nI (off hi - off lo))])), (aB, .inl (cB, R, .inl Bf)), (aS, .inl (cS, R, .inl Sf))] s.heap := hP
  have hl := lv_entry ([.ref aP, .int k, .int j]) (n := 3) (Nat.le_of_ble_eq_true rfl)
  rw [lg_entry_eq]
  generalize (lg_sl ([.ref aP, .int k, .int j]) ++ List.replicate (3 - (lg_sl ([.ref aP, .int k, .int j])).length) Slot.unset).toArray = ls at hl ⊢
  have hl : lv_has ls 3 [(0, .ref aP), (1, .int k), (2, .int j)] := hl
  have hRR := hok.1
  have hll := hok.2.1
  have hcap := hok.2.2.1
  have hgap := hok.gap (Nat.le_refl lo) hll (Nat.le_refl hi)
  refine lv_aload_n hx hb dX1_byteAt_0 rfl (lv_at hl 0 rfl) ?_
  refine va_get (D := (dC, dI)) (ci := 1) (v := .ref aR) (C := RX1) (T := TX1) (N := 12) hx hb hts hi_P hown hK hP 0 rfl rfl 0 (by decide) (hts (.fieldLink RX1 23 "PacketStore" "ring" "LPacketStore$Ring;") (by decide +kernel)) (fun _ h9 => h9) rfl dX1_byteAt_1 ?_
  refine lv_iload_n hx hb dX1_byteAt_4 rfl (lv_at hl 1 rfl) ?_
  refine zz_callR (As := [.int k]) (rest := []) ⟨hx, hb, hml, hown, hts⟩ (c_R_has l dC dI aR aB aS aT R (lo % R) (hi - lo) (off hi % R) (off hi - off lo) k (by omega)) (cwV 1 hts gX1_byteAt_X0_has rfl rfl rfl (by decide +kernel) ⟨Nat.le_of_ble_eq_true rfl, Nat.le_of_ble_eq_true rfl⟩) (hP.sub [1] rfl) (hK.sub [] rfl) 0 rfl rfl rfl rfl hl.1 rfl (Nat.le_of_ble_eq_true rfl) dX1_byteAt_5 ⟨Nat.zero_le _, Nat.zero_le _⟩ (fun r5 e5 => ?_)
  rcases e5 with ⟨e5, eh⟩ | ⟨e5, i, hi9, eh⟩ <;> subst e5
  · refine zz_if_eq (a := 0) (tgt := 27) hx hb dX1_byteAt_8 (by decide) (by decide) (fun c8 => ?_) (fun c8 => ?_)
    · refine lv_iconst (v := (-1)) hx hb dX1_byteAt_27 (by decide) ?_
      exact W.iret (v := ((-1))) hx hb hr (fun t ht hW => ⟨_, rfl, by unfold md_byteAt; rw [md_ix_none eh (by omega)], ht⟩) (fun q hq => by cases hq) dX1_byteAt_28
    · exact absurd rfl c8
  · subst eh
    refine zz_if_eq (a := 1) (tgt := 27) hx hb dX1_byteAt_8 (by decide) (by decide) (fun c8 => ?_) (fun c8 => ?_)
    · exact absurd c8 (by decide)
    · refine lv_iload_n hx hb dX1_byteAt_11 rfl (lv_at hl 2 rfl) ?_
      refine lv_if_lt (tgt := 27) hx hb dX1_byteAt_12 (by decide) (fun c12 => ?_) (fun c12 => ?_)
      · refine lv_iconst (v := (-1)) hx hb dX1_byteAt_27 (by decide) ?_
        exact W.iret (v := ((-1))) hx hb hr (fun t ht hW => ⟨_, rfl, by unfold md_byteAt; rw [md_ix_some hi9 (by omega)]; show _ = match md_ix (off (lo + i + 1) - off (lo + i)) j with | none => (-1 : Int32) | some t => bz (off (lo + i) + t) &&& 255; rw [md_ix_none (fun ⟨q, h1, h2⟩ => nI_pos (n := q) (by have := hok.2.2.1; have := h512 (lo + i) (by omega) (by omega); omega) (h2 ▸ c12)) (by have := h512 (lo + i) (by omega) (by omega); omega)], ht⟩) (fun q hq => by cases hq) dX1_byteAt_28
      · refine lv_iload_n hx hb dX1_byteAt_15 rfl (lv_at hl 2 rfl) ?_
        refine lv_aload_n hx hb dX1_byteAt_16 rfl (lv_at hl 0 rfl) ?_
        refine va_get (D := (dC, dI)) (ci := 1) (v := .ref aR) (C := RX1) (T := TX1) (N := 12) hx hb hts hi_P hown hK hP 0 rfl rfl 0 (by decide) (hts (.fieldLink RX1 23 "PacketStore" "ring" "LPacketStore$Ring;") (by decide +kernel)) (fun _ h9 => h9) rfl dX1_byteAt_17 ?_
        refine lv_iload_n hx hb dX1_byteAt_20 rfl (lv_at hl 1 rfl) ?_
        refine zz_callR (As := [.int (nI i)]) (rest := [.int j]) ⟨hx, hb, hml, hown, hts⟩ (c_R_sizeOf l dC dI aR aB aS aT R lo hi off (off hi - off lo) cS Sf i hok hst (by omega)) (cwV 1 hts gX1_byteAt_X0_sizeOf rfl rfl rfl (by decide +kernel) ⟨Nat.le_of_ble_eq_true rfl, Nat.le_of_ble_eq_true rfl⟩) (hP.sub [1, 3] rfl) (hK.sub [1] rfl) 0 rfl rfl rfl rfl hl.1 rfl (Nat.le_of_ble_eq_true rfl) dX1_byteAt_21 ⟨Nat.zero_le _, Nat.zero_le _⟩ (fun r21 e21 => ?_)
        subst e21
        have hk1 : off (lo + i) < off (lo + i + 1) := hok.2.2.2 (lo + i) (by omega) (by omega)
        have hk2 : off lo + (lo + i - lo) ≤ off (lo + i) := hok.gap (Nat.le_refl lo) (by omega) (by omega)
        have hk3 : off (lo + i + 1) + (hi - (lo + i + 1)) ≤ off hi := hok.gap (by omega) (by omega) (Nat.le_refl hi)
        refine lv_icmp_lt (tgt := 29) hx hb dX1_byteAt_24 (by decide) (fun c24 => ?_) (fun c24 => ?_)
        · obtain ⟨g, hg, eg⟩ := (pk_ix j (show off (lo + i + 1) - off (lo + i) < 2 ^ 31 by omega)).elim (fun h => absurd h c12) (fun h => h.elim (fun h => absurd c24 (Int32.not_lt.mpr h)) id)
          subst eg
          refine lv_aload_n hx hb dX1_byteAt_29 rfl (lv_at hl 0 rfl) ?_
          refine va_get (D := (dC, dI)) (ci := 1) (v := .ref aR) (C := RX1) (T := TX1) (N := 12) hx hb hts hi_P hown hK hP 0 rfl rfl 0 (by decide) (hts (.fieldLink RX1 23 "PacketStore" "ring" "LPacketStore$Ring;") (by decide +kernel)) (fun _ h9 => h9) rfl dX1_byteAt_30 ?_
          refine lv_iload_n hx hb dX1_byteAt_33 rfl (lv_at hl 1 rfl) ?_
          refine lv_iload_n hx hb dX1_byteAt_34 rfl (lv_at hl 2 rfl) ?_
          refine zz_callR (As := [.int (nI i), .int (nI g)]) (rest := []) ⟨hx, hb, hml, hown, hts⟩ (c_R_byteOf l dC dI aR aB aS aT R lo hi off (off hi - off lo) cB cS Bf Sf bz i g hok hst hbz (by omega) (by omega)) (cwV 2 hts gX1_byteAt_X0_byteOf rfl rfl rfl (by decide +kernel) ⟨Nat.le_of_ble_eq_true rfl, Nat.le_of_ble_eq_true rfl⟩) (hP.sub [1, 2, 3] rfl) (hK.sub [0, 1] rfl) 0 rfl rfl rfl rfl hl.1 rfl (Nat.le_of_ble_eq_true rfl) dX1_byteAt_35 ⟨Nat.zero_le _, Nat.zero_le _⟩ (fun r35 e35 => ?_)
          subst e35
          refine lv_sipush (v := nI 255) hx hb dX1_byteAt_38 (by decide) ?_
          refine lv_iand hx hb dX1_byteAt_41 ?_
          exact W.iret (v := ((((bz (off (lo + i) + g)).toInt8.toInt32)) &&& ((nI 255)))) hx hb hr (fun t ht hW => ⟨_, rfl, by unfold md_byteAt; rw [md_ix_some hi9 (by omega)]; show _ = match md_ix (off (lo + i + 1) - off (lo + i)) (nI g) with | none => (-1 : Int32) | some t => bz (off (lo + i) + t) &&& 255; rw [md_ix_some hg (by omega)]; exact zz_255 _, ht⟩) (fun q hq => by cases hq) dX1_byteAt_42
        · refine lv_iconst (v := (-1)) hx hb dX1_byteAt_27 (by decide) ?_
          exact W.iret (v := ((-1))) hx hb hr (fun t ht hW => ⟨_, rfl, by unfold md_byteAt; rw [md_ix_some hi9 (by omega)]; show _ = match md_ix (off (lo + i + 1) - off (lo + i)) j with | none => (-1 : Int32) | some t => bz (off (lo + i) + t) &&& 255; rw [md_ix_none (fun ⟨q, h1, h2⟩ => c24 (h2 ▸ nI_lt h1 (by omega))) (by omega)], ht⟩) (fun q hq => by cases hq) dX1_byteAt_28
