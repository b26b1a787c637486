/-! the mathematics of the ring: packets are numbered as they come, lo .. hi - 1 are there; off i: how many bytes came before packet i; bz q: the q-th int that came (its lowest eight bits count); a place in a ring of R is a number mod R -/
def zu {α : Type} (f : Nat → α) (k : Nat) (v : α) : Nat → α := fun j => if j = k then v else f j
def zcat (f : Nat → Int32) (n : Nat) (g : Nat → Int32) : Nat → Int32 := fun q => if q < n then f q else g (q - n)
theorem zu_s {α : Type} {f : Nat → α} {k : Nat} {v : α} : zu f k v k = v := if_pos rfl
theorem zu_n {α : Type} {f : Nat → α} {k j : Nat} {v : α} (h : j ≠ k) : zu f k v j = f j := if_neg h
theorem zz_i8 (z : Int32) : z.toInt8.toInt32.toInt8.toInt32 = z.toInt8.toInt32 := pk_vb z
theorem rg_wrap {q R : Nat} (h : q < 2 * R) : (if q < R then q else q - R) = q % R := by
  by_cases c : q < R
  · rw [if_pos c, Nat.mod_eq_of_lt c]
  · rw [if_neg c, Nat.mod_eq_sub_mod (Nat.le_of_not_lt c), Nat.mod_eq_of_lt (by omega)]
theorem rg_ne {R i j : Nat} (h : i < j) (h2 : j < i + R) : i % R ≠ j % R := by
  intro e
  have h3 : (j - i) % R = 0 := Nat.sub_mod_eq_zero_of_mod_eq e.symm
  rw [Nat.mod_eq_of_lt (by omega)] at h3
  omega
theorem rg_ne2 {R i j : Nat} (h : i ≠ j) (h1 : j < i + R) (h2 : i < j + R) : i % R ≠ j % R := by
  rcases Nat.lt_or_gt_of_ne h with q | q
  · exact rg_ne q h1
  · exact fun e => rg_ne q h2 e.symm
/-- how far x is behind y, out of their places in the ring -/
theorem rg_dist {R x y : Nat} (h1 : y < x) (h2 : x ≤ y + R) : (y % R < x % R → x % R - y % R = x - y) ∧ (x % R ≤ y % R → x % R + R - y % R = x - y) ∧ x % R < R ∧ y % R < R := by
  have hR : 0 < R := by omega
  have hy : y % R < R := Nat.mod_lt _ hR
  have hx : x % R < R := Nat.mod_lt _ hR
  have e : x % R = (y % R + (x - y)) % R := by
    rw [Nat.mod_add_mod]
    congr 1
    omega
  by_cases c : y % R + (x - y) < R
  · rw [Nat.mod_eq_of_lt c] at e
    refine ⟨fun _ => by omega, fun _ => by omega, hx, hy⟩
  · rw [Nat.mod_eq_sub_mod (Nat.le_of_not_lt c)] at e
    by_cases c2 : y % R + (x - y) - R < R
    · rw [Nat.mod_eq_of_lt c2] at e
      refine ⟨fun _ => by omega, fun _ => by omega, hx, hy⟩
    · omega
theorem rg_le0 {a b : Nat} (ha : a < 2 ^ 30) (hb : b < 2 ^ 30) : nI a - nI b ≤ 0 ↔ a ≤ b := by
  rw [Int32.le_iff_toInt_le, pk_sub_toInt ha hb]
  have h0 : (0 : Int32).toInt = 0 := by decide
  rw [h0]
  omega
theorem rg_sub3 {a b R : Nat} (h : b ≤ a + R) : nI a - nI b + nI R = nI (a + R - b) := by
  rw [Int32.sub_eq_add_neg, Int32.add_assoc, Int32.add_comm (-nI b), ← Int32.add_assoc, ← Int32.sub_eq_add_neg, nI_add, pk_sub h]
theorem rg_sz1 {R x y : Nat} (hR : R ≤ 16384) (h1 : y < x) (h2 : x ≤ y + R) (c : ¬ nI (x % R) - nI (y % R) ≤ 0) : nI (x % R) - nI (y % R) = nI (x - y) := by
  obtain ⟨e1, e2, e3, e4⟩ := rg_dist h1 h2
  have hlt : y % R < x % R := Nat.not_le.mp (fun q => c ((rg_le0 (by omega) (by omega)).mpr q))
  rw [pk_sub (Nat.le_of_lt hlt), e1 hlt]
theorem rg_sz2 {R x y : Nat} (hR : R ≤ 16384) (h1 : y < x) (h2 : x ≤ y + R) (c : nI (x % R) - nI (y % R) ≤ 0) : nI (x % R) - nI (y % R) + nI R = nI (x - y) := by
  obtain ⟨e1, e2, e3, e4⟩ := rg_dist h1 h2
  have hle : x % R ≤ y % R := (rg_le0 (by omega) (by omega)).mp c
  rw [rg_sub3 (by omega), e2 hle]
/-- the packets that are there: each has a byte, and they fit -/
def rg_ok (R lo hi : Nat) (off : Nat → Nat) : Prop := (64 ≤ R ∧ R ≤ 16384) ∧ lo ≤ hi ∧ off hi ≤ off lo + R ∧ ∀ i, lo ≤ i → i < hi → off i < off (i + 1)
/-- the ring's arrays hold them -/
def rg_rep (R lo hi : Nat) (off : Nat → Nat) (tm bz B S T : Nat → Int32) : Prop := (∀ i, lo ≤ i → i < hi → T (i % R) = tm i) ∧ (∀ i, lo ≤ i → i < hi → S (i % R) = nI (off i % R)) ∧ ∀ q, off lo ≤ q → q < off hi → B (q % R) = (bz q).toInt8.toInt32
theorem rg_mono {off : Nat → Nat} {lo : Nat} : ∀ (n : Nat), (∀ i, lo ≤ i → i < lo + n → off i < off (i + 1)) → off lo + n ≤ off (lo + n)
  | 0, _ => Nat.le_refl _
  | n + 1, h => by
    have h1 := rg_mono n (fun i a b => h i a (by omega))
    have h2 := h (lo + n) (by omega) (by omega)
    show off lo + (n + 1) ≤ off (lo + n + 1)
    omega
theorem rg_ok.gap {R lo hi : Nat} {off : Nat → Nat} (h : rg_ok R lo hi off) {i j : Nat} (h1 : lo ≤ i) (h2 : i ≤ j) (h3 : j ≤ hi) : off i + (j - i) ≤ off j := by
  have := rg_mono (off := off) (lo := i) (j - i) (fun k a b => h.2.2.2 k (by omega) (by omega))
  rw [show i + (j - i) = j by omega] at this
  exact this
theorem rg_ok.drop {R lo hi : Nat} {off : Nat → Nat} (h : rg_ok R lo hi off) {k : Nat} (h1 : lo ≤ k) (h2 : k ≤ hi) : rg_ok R k hi off := by
  have := h.gap (Nat.le_refl lo) h1 h2
  refine ⟨h.1, h2, by have := h.2.2.1; omega, fun i a b => h.2.2.2 i (by omega) b⟩
theorem rg_rep.drop {R lo hi : Nat} {off : Nat → Nat} {tm bz B S T : Nat → Int32} (ho : rg_ok R lo hi off) (h : rg_rep R lo hi off tm bz B S T) {k : Nat} (h1 : lo ≤ k) (h2 : k ≤ hi) : rg_rep R k hi off tm bz B S T := by
  have := ho.gap (Nat.le_refl lo) h1 h2
  exact ⟨fun i a b => h.1 i (by omega) b, fun i a b => h.2.1 i (by omega) b, fun q a b => h.2.2 q (by omega) b⟩
theorem rg_ok.add {R lo hi sz : Nat} {off : Nat → Nat} (h : rg_ok R lo hi off) (h1 : 1 ≤ sz) (h2 : off hi - off lo + sz ≤ R) : rg_ok R lo (hi + 1) (zu off (hi + 1) (off hi + sz)) := by
  have hg := h.gap (Nat.le_refl lo) h.2.1 (Nat.le_refl hi)
  have hl := h.2.1
  refine ⟨h.1, by omega, ?_, fun i a b => ?_⟩
  · rw [zu_s, zu_n (by omega)]
    omega
  · by_cases c : i = hi
    · subst c
      rw [zu_s, zu_n (by omega)]
      omega
    · rw [zu_n (by omega), zu_n (by omega)]
      exact h.2.2.2 i a (by omega)
theorem rg_rep.add {R lo hi sz : Nat} {off : Nat → Nat} {tm bz tz B B' S T : Nat → Int32} {t : Int32} (ho : rg_ok R lo hi off) (h : rg_rep R lo hi off tm bz B S T) (h1 : 1 ≤ sz) (h2 : off hi - off lo + sz ≤ R)
    (hB : ∀ q, off lo ≤ q → q < off hi → B' (q % R) = B (q % R)) (hB2 : ∀ j, j < sz → B' ((off hi + j) % R) = (tz j).toInt8.toInt32) :
    rg_rep R lo (hi + 1) (zu off (hi + 1) (off hi + sz)) (zu tm hi t) (zcat bz (off hi) tz) B' (upd S (hi % R) (nI (off hi % R))) (upd T (hi % R) t) := by
  have hg := ho.gap (Nat.le_refl lo) ho.2.1 (Nat.le_refl hi)
  have hl := ho.2.1
  refine ⟨fun i a b => ?_, fun i a b => ?_, fun q a b => ?_⟩
  · by_cases c : i = hi
    · subst c
      rw [pk_us, zu_s]
    · rw [pk_un (rg_ne (by omega) (by omega)), zu_n c]
      exact h.1 i a (by omega)
  · rw [zu_n (by omega)]
    by_cases c : i = hi
    · subst c
      rw [pk_us]
    · rw [pk_un (rg_ne (by omega) (by omega))]
      exact h.2.1 i a (by omega)
  · rw [zu_n (by omega)] at a
    rw [zu_s] at b
    unfold zcat
    by_cases c : q < off hi
    · rw [if_pos c, hB q a c]
      exact h.2.2 q a c
    · rw [if_neg c, ← hB2 (q - off hi) (by omega), show off hi + (q - off hi) = q by omega]
/-! answers that are read off the state -/
def md_ix (n : Nat) (k : Int32) : Option Nat := if k < 0 then none else if nI n ≤ k then none else some k.toNatClampNeg
theorem md_ix_some {n j : Nat} (h : j < n) (hn : n < 2 ^ 31) : md_ix n (nI j) = some j := by
  unfold md_ix
  rw [if_neg (nI_pos (by omega)), if_neg (nI_ge h hn), nI_clamp (by omega)]
theorem md_ix_none {n : Nat} {k : Int32} (h : ¬ ∃ j, j < n ∧ k = nI j) (hn : n < 2 ^ 31) : md_ix n k = none := by
  unfold md_ix
  rcases pk_ix k hn with q | q | q
  · rw [if_pos q]
  · by_cases c : k < 0
    · rw [if_pos c]
    · rw [if_neg c, if_pos q]
  · exact absurd q h
def md_out (os : Nat) (oz : Nat → Int32) (j : Int32) : Int32 := match md_ix os j with
  | none => -1
  | some t => oz t &&& 255
def md_count (what : Int32) (a0 a1 a2 a3 a4 a5 a6 a7 : Nat) : Int32 := if what = nI 0 then nI a0 else if what = nI 1 then nI a1 else if what = nI 2 then nI a2 else if what = nI 3 then nI a3 else if what = nI 4 then nI a4 else if what = nI 5 then nI a5 else if what = nI 6 then nI a6 else if what = nI 7 then nI a7 else -1
def md_about (n : Nat) (tmf : Nat → Int32) (szf : Nat → Nat) (k what : Int32) : Int32 := match md_ix n k with
  | none => -1
  | some j => if what = nI 0 then tmf j else if what = nI 1 then nI (szf j) else -1
def md_byteAt (n : Nat) (szf : Nat → Nat) (byf : Nat → Nat → Int32) (k j : Int32) : Int32 := match md_ix n k with
  | none => -1
  | some i => match md_ix (szf i) j with
    | none => -1
    | some t => byf i t &&& 255
def md_room (room : Int32) : Nat := if room < nI 64 then 64 else if nI 16384 < room then 16384 else room.toNatClampNeg
theorem bp_b (x : Int32) : x.toInt8.toInt32 &&& 255 = x &&& 255 := by
  apply Int32.toBitVec_inj.mp
  rw [Int32.toBitVec_and, Int32.toBitVec_and, Int8.toBitVec_toInt32, Int32.toBitVec_toInt8]
  apply BitVec.eq_of_getLsbD_eq
  intro i hi
  rw [BitVec.getLsbD_and, BitVec.getLsbD_and]
  have hm : ∀ i < 32, 8 ≤ i → (255 : Int32).toBitVec.getLsbD i = false := by decide
  rcases Nat.lt_or_ge i 8 with z | z
  · rw [BitVec.getLsbD_signExtend, BitVec.getLsbD_signExtend, if_pos z, if_pos hi]
    simp only [z, hi, decide_true, Bool.true_and]
  · rw [hm i hi z]; simp
theorem zz_255 (x : Int32) : x.toInt8.toInt32 &&& nI 255 = x &&& 255 := bp_b x
theorem md_room_in (room : Int32) : 64 ≤ md_room room ∧ md_room room ≤ 16384 := by
  unfold md_room
  by_cases h1 : room < nI 64
  · rw [if_pos h1]
    omega
  · rw [if_neg h1]
    by_cases h2 : nI 16384 < room
    · rw [if_pos h2]
      omega
    · rw [if_neg h2]
      rw [Int32.lt_iff_toInt_lt, nI_toInt (by omega)] at h1
      rw [Int32.lt_iff_toInt_lt, nI_toInt (by omega)] at h2
      have h3 : ¬ room < 0 := by
        rw [Int32.lt_iff_toInt_lt]
        have h0 : (0 : Int32).toInt = 0 := by decide
        omega
      obtain ⟨j, hj, e⟩ := nI_of h3
      rw [e, nI_toInt hj] at h1 h2
      rw [e, nI_clamp hj]
      omega
theorem md_room_eq (room : Int32) : (if nI 64 < (if room < nI 16384 then room else nI 16384) then (if room < nI 16384 then room else nI 16384) else nI 64) = nI (md_room room) := by
  unfold md_room
  by_cases h1 : room < nI 64
  · have h2 : room < nI 16384 := by
      rw [Int32.lt_iff_toInt_lt, nI_toInt (by omega)] at h1 ⊢
      omega
    have h3 : ¬ nI 64 < room := by
      rw [Int32.lt_iff_toInt_lt, nI_toInt (by omega)] at h1 ⊢
      omega
    rw [if_pos h1, if_pos h2, if_neg h3]
  · rw [if_neg h1]
    by_cases h2 : nI 16384 < room
    · have h3 : ¬ room < nI 16384 := by
        rw [Int32.lt_iff_toInt_lt, nI_toInt (by omega)] at h2 ⊢
        omega
      rw [if_pos h2, if_neg h3, if_pos (nI_lt (by omega) (by omega))]
    · rw [if_neg h2]
      have h4 : ¬ room < 0 := by
        rw [Int32.lt_iff_toInt_lt, nI_toInt (by omega)] at h1
        rw [Int32.lt_iff_toInt_lt]
        have h0 : (0 : Int32).toInt = 0 := by decide
        omega
      obtain ⟨j, hj, e⟩ := nI_of h4
      subst e
      rw [nI_clamp hj]
      rw [Int32.lt_iff_toInt_lt, nI_toInt (by omega), nI_toInt (by omega)] at h1
      rw [Int32.lt_iff_toInt_lt, nI_toInt (by omega), nI_toInt (by omega)] at h2
      by_cases h5 : j < 16384
      · rw [if_pos (nI_lt h5 (by omega))]
        by_cases h6 : 64 < j
        · rw [if_pos (nI_lt h6 (by omega))]
        · rw [if_neg (nI_nlt (by omega) (by omega)), show j = 64 by omega]
      · rw [show j = 16384 by omega, if_neg (nI_nlt (by omega) (by omega)), if_pos (nI_lt (by omega) (by omega))]
theorem zz_sw (x : Int32) (n : Nat) (hn : n < 2 ^ 31) : (∃ k, k < n ∧ x = nI k) ∨ (x.toInt < 0 ∨ (n : Int) - 1 < x.toInt) := by
  rcases pk_ix x hn with h | h | h
  · rw [Int32.lt_iff_toInt_lt] at h
    have h0 : (0 : Int32).toInt = 0 := by decide
    exact Or.inr (Or.inl (by omega))
  · rw [Int32.le_iff_toInt_le, nI_toInt hn] at h
    exact Or.inr (Or.inr (by omega))
  · exact Or.inl h
theorem zz_swne {x : Int32} {n k : Nat} (h : x.toInt < 0 ∨ (n : Int) - 1 < x.toInt) (hk : k < n) (hn : n < 2 ^ 31) : ¬ x = nI k := by
  intro e
  subst e
  rw [nI_toInt (by omega)] at h
  omega
