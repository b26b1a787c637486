section ZL
variable {p : Program} {l : Launch} {e : Env} {R : Room} {s : State} {m : MethodId} {args : Array Value} {below : List Frame} {meth : Method} {c : Code} {H : Heap} {locs : List Loc} {cells slots : Nat} {Q : State → Prop}
variable {cc : ByteArray} {pc : Nat} {ls : Array Slot} {rest : List Value} {A : Nat → Prop} {H0 : Heap}
theorem zz_sld (hexec : p.tables.exec = Jvm.exec) (hb : c.code = cc) {b L : Nat} {xs : Nat → Int32} (hX : va_X b L xs s H0) (hbl : b < H0.size) (hbA : ¬ A b) (hS : va_S A H0 H locs) {j : Nat} (hj : j < L) (hL : L < 2 ^ 31) (hdg : decode cc pc = .ok (.iaload, 1))
    (kk : W p l e R s m args below meth c H locs cells slots Q (F0 m (pc + 1) ls (.int (xs j) :: rest))) : W p l e R s m args below meth c H locs cells slots Q (F0 m pc ls (.int (nI j) :: .ref b :: rest)) := by
  refine va_sld hexec hb hX hbl hbA hS (vp_in_nI hj hL) hdg ?_
  rw [nI_clamp (Nat.lt_trans hj hL)]
  exact kk
end ZL
theorem kp_uniq {R lo a b : Nat} {f : Nat → Nat} (h1 : lo ≤ a) (h2 : f a ≤ R) (h3 : ∀ k, lo ≤ k → k < a → R < f k) (h4 : lo ≤ b) (h5 : f b ≤ R) (h6 : ∀ k, lo ≤ k → k < b → R < f k) : a = b := by
  rcases Nat.lt_trichotomy a b with h | h | h
  · have := h6 a h1 h
    omega
  · exact h
  · have := h3 b h4 h
    omega
theorem dl_uniq {lo hi a b : Nat} {P : Nat → Prop} (h1 : lo ≤ a) (h2 : a ≤ hi) (h3 : ∀ k, lo ≤ k → k < a → ¬ P k) (h4 : a < hi → P a) (g1 : lo ≤ b) (g2 : b ≤ hi) (g3 : ∀ k, lo ≤ k → k < b → ¬ P k) (g4 : b < hi → P b) : a = b := by
  rcases Nat.lt_trichotomy a b with h | h | h
  · exact absurd (h4 (by omega)) (g3 a h1 h)
  · exact h
  · exact absurd (g4 (by omega)) (h3 b g1 h)
def md_next (lo hi : Nat) (off : Nat → Nat) (tm bz : Nat → Int32) (fr to : Int32) (pa os : Nat) (Of : Nat → Int32) (most r : Int32) (u : Nat × Nat × Nat × (Nat → Int32)) : Prop :=
  ∃ w, pa - lo ≤ w ∧ w ≤ hi - lo ∧ (∀ t, pa - lo ≤ t → t < w → ¬ (fr ≤ tm (lo + t) ∧ tm (lo + t) ≤ to)) ∧ ((w = hi - lo ∧ r = (-1) ∧ u = (w, 0, os, Of)) ∨ (w < hi - lo ∧ (fr ≤ tm (lo + w) ∧ tm (lo + w) ≤ to) ∧ ((¬ nI (off (lo + w + 1) - off (lo + w)) ≤ most ∧ r = (-2) ∧ u = (w, 1, os, Of)) ∨ (nI (off (lo + w + 1) - off (lo + w)) ≤ most ∧ r = nI (off (lo + w + 1) - off (lo + w)) ∧ u.1 = w + 1 ∧ u.2.1 = 1 ∧ u.2.2.1 = off (lo + w + 1) - off (lo + w) ∧ ∀ t, t < off (lo + w + 1) - off (lo + w) → u.2.2.2 t = (bz (off (lo + w) + t)).toInt8.toInt32))))
theorem md_next_both {lo hi : Nat} {off : Nat → Nat} {tm bz : Nat → Int32} {fr to : Int32} {pa os : Nat} {Of Om oz : Nat → Int32} {most r r' : Int32} {u u' : Nat × Nat × Nat × (Nat → Int32)} (h1 : md_next lo hi off tm bz fr to pa os Of most r u) (h2 : md_next lo hi off tm bz fr to pa os Om most r' u')
    (hO : os ≤ 512 ∧ (∀ t, t < os → Of t = (oz t).toInt8.toInt32) ∧ ∀ t, t < os → Om t = (oz t).toInt8.toInt32) (h512 : ∀ i, lo ≤ i → i < hi → off (i + 1) - off i ≤ 512) :
    r = r' ∧ u.1 = u'.1 ∧ u.2.1 = u'.2.1 ∧ u.2.2.1 = u'.2.2.1 ∧ u.1 ≤ hi - lo ∧ u.2.1 ≤ 1 ∧ ∃ oz' : Nat → Int32, u.2.2.1 ≤ 512 ∧ (∀ t, t < u.2.2.1 → u.2.2.2 t = (oz' t).toInt8.toInt32) ∧ ∀ t, t < u.2.2.1 → u'.2.2.2 t = (oz' t).toInt8.toInt32 := by
  obtain ⟨w, a1, a2, a3, a4⟩ := h1
  obtain ⟨w', b1, b2, b3, b4⟩ := h2
  have ew : w = w' := by
    refine dl_uniq (P := fun t => fr ≤ tm (lo + t) ∧ tm (lo + t) ≤ to) a1 a2 a3 ?_ b1 b2 b3 ?_
    · intro q
      rcases a4 with ⟨z, -⟩ | ⟨-, z, -⟩
      · omega
      · exact z
    · intro q
      rcases b4 with ⟨z, -⟩ | ⟨-, z, -⟩
      · omega
      · exact z
  subst ew
  rcases a4 with ⟨z1, z2, z3⟩ | ⟨z1, -, a5⟩
  · rcases b4 with ⟨y1, y2, y3⟩ | ⟨y1, -⟩
    · subst z2; subst z3; subst y2; subst y3
      exact ⟨rfl, rfl, rfl, rfl, a2, Nat.zero_le 1, oz, hO⟩
    · omega
  · rcases b4 with ⟨y1, -⟩ | ⟨-, -, b5⟩
    · omega
    · rcases a5 with ⟨c1, c2, c3⟩ | ⟨c1, c2, c3, c4, c5, c6⟩
      · rcases b5 with ⟨-, d2, d3⟩ | ⟨d1, -⟩
        · subst c2; subst c3; subst d2; subst d3
          exact ⟨rfl, rfl, rfl, rfl, a2, Nat.le_refl 1, oz, hO⟩
        · exact absurd d1 c1
      · rcases b5 with ⟨d1, -⟩ | ⟨-, d2, d3, d4, d5, d6⟩
        · exact absurd c1 d1
        · have h5 := h512 (lo + w) (by omega) (by omega)
          refine ⟨c2.trans d2.symm, c3.trans d3.symm, c4.trans d4.symm, c5.trans d5.symm, by omega, by omega, fun t => bz (off (lo + w) + t), by omega, fun t h => c6 t (by omega), fun t h => d6 t (by omega)⟩
def st_inv (R lo hi : Nat) (off : Nat → Nat) (ts os uw pa cb : Nat) (tm bz tz oz Bf Sf Tf Xf Of Bm Sm Tm Xm Om : Nat → Int32) : Prop :=
  rg_ok R lo hi off ∧ rg_rep R lo hi off tm bz Bf Sf Tf ∧ rm_rep lo hi off tm bz Bm Sm Tm ∧ (∀ i, lo ≤ i → i < hi → off (i + 1) - off i ≤ 512) ∧ (pa ≤ hi ∧ hi ≤ cb) ∧ (ts ≤ 512 ∧ (∀ t, t < ts → Xf t = (tz t).toInt8.toInt32) ∧ ∀ t, t < ts → Xm t = (tz t).toInt8.toInt32) ∧ (os ≤ 512 ∧ (∀ t, t < os → Of t = (oz t).toInt8.toInt32) ∧ ∀ t, t < os → Om t = (oz t).toInt8.toInt32) ∧ uw ≤ 1
theorem st_512 {lo hi ts : Nat} {off : Nat → Nat} {k : Nat} (h : ∀ i, lo ≤ i → i < hi → off (i + 1) - off i ≤ 512) (hk : lo ≤ k) (hts : ts ≤ 512) : ∀ i, k ≤ i → i < hi + 1 → zu off (hi + 1) (off hi + ts) (i + 1) - zu off (hi + 1) (off hi + ts) i ≤ 512 := by
  intro i a b
  by_cases c : i = hi
  · subst c
    rw [zu_s, zu_n (by omega)]
    omega
  · rw [zu_n (by omega), zu_n (by omega)]
    exact h i (by omega) (by omega)
