/-! ===== what is found ===== -/
def tfC (ho cl : Int32) : Int32 := if ho = 0 then cl + 1 else cl
def tfS (ho : Int32) (z : LV) (sz : Nat → SV) : Nat → SV := if ho = 0 ∧ 0 < z.1 4 ∧ ¬ ixB (z.1 2) (nI 2) = 0 then va_up sz (z.1 2).toNatClampNeg ((sz (z.1 2).toNatClampNeg).1, 1, (sz (z.1 2).toNatClampNeg).2.2) else sz
theorem wiN_le {n : Nat} (h : n ≤ 6) : wiN n ≤ 6 := by unfold wiN; split <;> omega
theorem tfC_y {ho cl : Int32} (h : ho = 0) : tfC ho cl = cl + 1 := if_pos h
theorem tfC_n {ho cl : Int32} (h : ¬ ho = 0) : tfC ho cl = cl := if_neg h
theorem tfS_1 {ho : Int32} {z : LV} {sz : Nat → SV} (h : ¬ ho = 0) : tfS ho z sz = sz := if_neg (fun e => h e.1)
theorem tfS_2 {ho : Int32} {z : LV} {sz : Nat → SV} (h : ¬ 0 < z.1 4) : tfS ho z sz = sz := if_neg (fun e => h e.2.1)
theorem tfS_3 {ho : Int32} {z : LV} {sz : Nat → SV} (h : ixB (z.1 2) (nI 2) = 0) : tfS ho z sz = sz := if_neg (fun e => e.2.2 h)
theorem tfS_4 {ho : Int32} {z : LV} {sz : Nat → SV} {j : Nat} (h : ho = 0) (h2 : 0 < z.1 4) (hj : j < 2) (he : z.1 2 = nI j) : tfS ho z sz = va_up sz j ((sz j).1, 1, (sz j).2.2) := by
  have hb : ixB (z.1 2) (nI 2) = 1 := by rw [he]; exact ixB_in (N := 2) hj
  unfold tfS
  rw [if_pos ⟨h, h2, by rw [hb]; decide⟩, he, nI_clamp (by omega)]
theorem ltGr_1 {x : Int32} (h : ¬ ltGr x = 0) : ltGr x = 1 := by unfold ltGr at h ⊢; split; exact absurd (if_pos (by assumption)) h; rfl
def cbC (lz : Nat → LV) (wf : Nat → Int32) (wn : Nat) (ws : Int32) (i : Nat) (w : Nat) (cl : Int32) : Int32 := match w with
  | 2 => tfC (wiHolds (wiF wf wn (ltStrength 2 (lz i))) (wiN wn) ws) cl
  | _ => cl
def cbS (lz : Nat → LV) (wf : Nat → Int32) (wn : Nat) (ws : Int32) (sz : Nat → SV) (i w : Nat) : Nat → SV := match w with
  | 2 => tfS (wiHolds (wiF wf wn (ltStrength 2 (lz i))) (wiN wn) ws) (lz i) sz
  | _ => sz
def cbN (wn w : Nat) : Nat := match w with
  | 2 => wiN wn
  | _ => wn
def cbW (lz : Nat → LV) (wf : Nat → Int32) (wn i w : Nat) : Nat → Int32 := match w with
  | 2 => wiF wf wn (ltStrength 2 (lz i))
  | _ => wf
