/-! the model's arrays: packet lo + k at place k, the bytes from 0 on -/
def rm_rep (lo hi : Nat) (off : Nat → Nat) (tm bz Bm Sm Tm : Nat → Int32) : Prop := (∀ k, k < hi - lo → Tm k = tm (lo + k)) ∧ (∀ k, k < hi - lo → Sm k = nI (off (lo + k + 1) - off (lo + k))) ∧ ∀ q, q < off hi - off lo → Bm q = (bz (off lo + q)).toInt8.toInt32
theorem rg_ge0 {a b : Nat} (ha : a < 2 ^ 30) (hb : b < 2 ^ 30) : 0 ≤ nI a - nI b ↔ b ≤ a := by
  rw [Int32.le_iff_toInt_le, pk_sub_toInt ha hb]
  have h0 : (0 : Int32).toInt = 0 := by decide
  rw [h0]
  omega
theorem rg_lt3 {a b c : Nat} (ha : a < 2 ^ 30) (hb : b < 2 ^ 30) (hc : c < 2 ^ 30) : nI a - nI b < nI c ↔ a < b + c := by
  rw [Int32.lt_iff_toInt_lt, pk_sub_toInt ha hb, nI_toInt (by omega)]
  omega
/-- one step of the shift to the left -/
theorem rm_shift {f g h : Nat → Int32} {k N : Nat} {x : Int32} (h1 : ∀ j, j < k → f j = g j) (h2 : ∀ j, k ≤ j → j < N → f j = h j) (hx : x = g k) : (∀ j, j < k + 1 → upd f k x j = g j) ∧ ∀ j, k + 1 ≤ j → j < N → upd f k x j = h j := by
  refine ⟨zz_updlt h1 hx, fun j a b => ?_⟩
  rw [pk_un (by omega)]
  exact h2 j (by omega) b
theorem rm_rep.add {R lo hi sz : Nat} {off : Nat → Nat} {tm bz tz Bm B' Sm Tm : Nat → Int32} {t : Int32} (ho : rg_ok R lo hi off) (h : rm_rep lo hi off tm bz Bm Sm Tm)
    (hB : ∀ q, q < off hi - off lo → B' q = Bm q) (hB2 : ∀ j, j < sz → B' (off hi - off lo + j) = (tz j).toInt8.toInt32) :
    rm_rep lo (hi + 1) (zu off (hi + 1) (off hi + sz)) (zu tm hi t) (zcat bz (off hi) tz) B' (upd Sm (hi - lo) (nI sz)) (upd Tm (hi - lo) t) := by
  have hg := ho.gap (Nat.le_refl lo) ho.2.1 (Nat.le_refl hi)
  have hl := ho.2.1
  refine ⟨fun k a => ?_, fun k a => ?_, fun q a => ?_⟩
  · by_cases c : k = hi - lo
    · subst c
      rw [pk_us, show lo + (hi - lo) = hi by omega, zu_s]
    · rw [pk_un c, zu_n (by omega)]
      exact h.1 k (by omega)
  · by_cases c : k = hi - lo
    · subst c
      rw [pk_us, show lo + (hi - lo) = hi by omega, zu_s, zu_n (by omega)]
      congr 1
      omega
    · rw [pk_un c, zu_n (by omega), zu_n (by omega)]
      exact h.2.1 k (by omega)
  · rw [zu_s, zu_n (by omega)] at a
    rw [zu_n (by omega)]
    unfold zcat
    by_cases c : off lo + q < off hi
    · rw [if_pos c, hB q (by omega)]
      exact h.2.2 q (by omega)
    · rw [if_neg c, ← hB2 (off lo + q - off hi) (by omega), show off hi - off lo + (off lo + q - off hi) = q by omega]
