/-! ===== what is sold ===== -/
abbrev SK : Type := Int32 × Int32 × SV × (Nat → LV)
def ltSold (k : Int32) (z : LV) : LV := (hv5 (z.1 0) (z.1 1) (z.1 2) (z.1 3) (z.1 4 - k), z.2.1, z.2.2)
def siRem (z : SV) : SV := (z.1 - 1, z.2.1, siSh z.2.2 (z.1 - 1))
abbrev tkX (s : SK) : Int32 := siAt s.2.2.1.2.2 s.2.2.1.1 0
abbrev tkGo (nl : Nat) (s : SK) : Prop := ¬ s.1 ≤ 0 ∧ ¬ ixB (tkX s) (nI nl) = 0
def tkK (s : SK) (i : Nat) : Int32 := mn s.1 ((s.2.2.2 i).1 4)
def tkT (s : SK) (i : Nat) : SK := (s.1 - tkK s i, s.2.1 + tkK s i * ltPrice ((s.2.2.2 i).1 0), if (s.2.2.2 i).1 4 - tkK s i = 0 then siRem s.2.2.1 else s.2.2.1, va_up s.2.2.2 i (ltSold (tkK s i) (s.2.2.2 i)))
def tkS (nl : Nat) (s : SK) : SK := if tkGo nl s then tkT s (tkX s).toNatClampNeg else s
def tkI (nl : Nat) : Nat → SK → SK
  | 0, s => s
  | t + 1, s => tkS nl (tkI nl t s)
theorem tkI_stuck {nl t : Nat} {s : SK} (h : ¬ tkGo nl (tkI nl t s)) : ∀ {k : Nat}, t ≤ k → tkI nl k s = tkI nl t s := by
  intro k hk
  induction k with
  | zero => obtain rfl : t = 0 := by omega
            rfl
  | succ k ih =>
    by_cases e : t = k + 1
    · rw [e]
    · show tkS nl (tkI nl k s) = _
      rw [ih (by omega)]
      exact if_neg h
theorem tkS_go {nl i : Nat} {s : SK} (h0 : ¬ s.1 ≤ 0) (hi : i < nl) (hnl : nl ≤ 12) (hs : tkX s = nI i) : tkS nl s = tkT s i := by
  have hb : ixB (tkX s) (nI nl) = 1 := by rw [hs]; exact ixB_in (N := nl) hi
  unfold tkS
  rw [if_pos ⟨h0, by rw [hb]; decide⟩, hs, nI_clamp (by omega)]
theorem tkI_n {nl : Nat} {s : SK} (h : s.2.2.1.1 ≤ 12) : ∀ t, (tkI nl t s).2.2.1.1 ≤ 12
  | 0 => h
  | t + 1 => by
    have hh := tkI_n (nl := nl) h t
    show (tkS nl (tkI nl t s)).2.2.1.1 ≤ 12
    unfold tkS
    split
    · show (if _ then siRem _ else _ : SV).1 ≤ 12
      split
      · show _ - 1 ≤ 12; omega
      · exact hh
    · exact hh
theorem siAt_pos {f : Nat → Int32} {n i : Nat} (hi : i < 12) (h : siAt f n 0 = nI i) : 1 ≤ n := by
  refine Nat.pos_of_ne_zero (fun e => ?_)
  subst e
  have e : siAt f 0 0 = -1 := by unfold siAt; exact if_pos rfl
  rw [e] at h
  have h2 : (-1 : Int32).toInt = (nI i).toInt := by rw [h]
  rw [nI_toInt (by omega)] at h2
  have h3 : (-1 : Int32).toInt = -1 := rfl
  omega
