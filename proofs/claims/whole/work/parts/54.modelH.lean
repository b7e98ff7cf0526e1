/-! ===== the model: its questions ===== -/
def iaP (G : VG) (q N : Nat) (f : Nat → Int32) : va_W := [(q, .inl (G.2.1 0, N, .inl f))]
theorem sm_cong {f g : Nat → Int32} : ∀ {n : Nat}, (∀ k, k < n → f k = g k) → sm f n = sm g n
  | 0, _ => rfl
  | n + 1, h => by
    show sm f n + f n = sm g n + g n
    rw [sm_cong (fun k hk => h k (by omega)), h n (by omega)]
/-- how many are in the window -/
def wnM (fd : Nat) : Nat := min 6 fd
theorem mn6 {fd : Nat} (h : fd < 2 ^ 31) : mn 6 (nI fd) = nI (wnM fd) := mn_nI (a := 6)
def cfI (wd : Nat → Int32) (b : Int32) (r0 : Int32) : Nat → Int32
  | 0 => r0
  | i + 1 => cfI wd b r0 i &&& (if wd i < b then 0 else 1)
def bmR (bm : Nat → Int32) (z : BV) : Prop := bm 0 = z.1 ∧ bm 1 = z.2.1 ∧ bm 2 = z.2.2 0 ∧ bm 3 = z.2.2 1 ∧ bm 4 = z.2.2 2 ∧ bm 5 = z.2.2 3
theorem ne1_of {x : Int32} (h : x = 0 ∨ x = 1) (h1 : ¬ x = 1) : x = 0 := h.elim id (fun e => absurd e h1)
/-- a lot of the class, and of the model -/
def ltR (z : LV) (y : MV) : Prop := (chN z.2.2 ∧ cmR z.2.2 y ∧ ∀ j, j < 6 → z.2.2.2.2 j = y.2.2.1 j) ∧ z.1 0 = y.1 5 ∧ z.1 1 = y.1 6 ∧ z.1 2 = y.1 7 ∧ z.1 4 = y.1 8 ∧ ∀ j, j < 3 → z.2.1 j = y.2.2.2 j
theorem moOf_eq {z : LV} {y : MV} (h : ltR z y) {w : Nat} (hw : w ≤ 21) : moOf y w = qLot z w := by
  obtain ⟨⟨-, ⟨r1, r2, r3, r4, r5, o0, o1, o2, o3⟩, hp⟩, g0, g1, g2, g4, hf⟩ := h
  match w, hw with
  | 0, _ => exact o0.symm
  | 1, _ => exact o1.symm
  | 2, _ => exact o2.symm
  | 3, _ => exact o3.symm
  | 4, _ => exact r1.symm
  | 5, _ => exact r2.symm
  | 6, _ => exact r3.symm
  | 7, _ => exact r4.symm
  | 8, _ => exact r5.symm
  | 9, _ => exact g0.symm
  | 10, _ => exact g1.symm
  | 11, _ => exact g2.symm
  | 12, _ => exact g4.symm
  | 13, _ => exact (hf 0 (by decide)).symm
  | 14, _ => exact (hf 1 (by decide)).symm
  | 15, _ => exact (hf 2 (by decide)).symm
  | k + 16, hk => exact (hp k (by omega)).symm
theorem moSat_eq (f : Nat → Int32) : moSat f = mxSat f := rfl
theorem moIn_eq {x a b : Int32} : moIn x a b = mxWithin x a b := by
  unfold moIn mxWithin
  by_cases h : x < a
  · rw [if_pos h, if_neg (fun e => i32_nle h e.1)]
  · rw [if_neg h]
    by_cases h2 : b < x
    · rw [if_pos h2, if_neg (fun e => i32_nle h2 e.2)]
    · rw [if_neg h2, if_pos ⟨i32_le h, i32_le h2⟩]
theorem moRight_eq (f : Nat → Int32) : moRight f = mxRight f := by
  unfold moRight mxRight
  rw [moIn_eq, moIn_eq, moIn_eq]
  rfl
theorem mx4_cong {f g : Nat → Int32} (h : ∀ j, j < 4 → f j = g j) : mxSat f = mxSat g ∧ mxSil f = mxSil g ∧ mxAlu f = mxAlu g ∧ mxRight f = mxRight g := by
  have e0 := h 0 (by decide)
  have e1 := h 1 (by decide)
  have e2 := h 2 (by decide)
  have e3 := h 3 (by decide)
  have a1 : mxSat f = mxSat g := by unfold mxSat; rw [e0, e1, e2, e3]
  have a2 : mxSil f = mxSil g := by unfold mxSil mxMelt; rw [e1, e2, e3]
  have a3 : mxAlu f = mxAlu g := by unfold mxAlu; rw [e2, e3]
  exact ⟨a1, a2, a3, by unfold mxRight; rw [a1, a2, a3]⟩
theorem moMod_eq {f g : Nat → Int32} (h : ∀ j, j < 4 → f j = g j) {w : Nat} (hw : w ≤ 3) : moMod f (nI w) = qMod g w := by
  obtain ⟨a1, a2, a3, a4⟩ := mx4_cong h
  unfold moMod
  rw [moRight_eq]
  match w, hw with
  | 0, _ => exact (if_pos rfl).trans a1
  | 1, _ => exact (if_neg (by decide)).trans ((if_pos rfl).trans a2)
  | 2, _ => exact (if_neg (by decide)).trans ((if_neg (by decide)).trans ((if_pos rfl).trans a3))
  | 3, _ => exact (if_neg (by decide)).trans ((if_neg (by decide)).trans ((if_neg (by decide)).trans a4))
theorem ixB01 {x n : Int32} : ixB x n = 0 ∨ ixB x n = 1 := by
  unfold ixB
  split
  · exact Or.inl rfl
  · split
    · exact Or.inl rfl
    · exact Or.inr rfl
theorem nIm1_toInt {a : Nat} (h : a < 2 ^ 30) : (nI a - 1).toInt = (a : Int) - 1 := pk_sub_toInt (b := 1) h (by decide)
theorem moIn_ix {x : Int32} {n : Nat} (h : n < 2 ^ 30) : moIn x 0 (nI n - 1) = ixB x (nI n) := by
  unfold moIn ixB
  by_cases h0 : x < 0
  · rw [if_pos h0, if_pos h0]
  · rw [if_neg h0, if_neg h0]
    by_cases h1 : nI n ≤ x
    · rw [if_pos h1, if_pos]
      rw [Int32.lt_iff_toInt_lt, nIm1_toInt h]
      rw [Int32.le_iff_toInt_le, nI_toInt (by omega)] at h1
      omega
    · rw [if_neg h1, if_neg]
      rw [Int32.lt_iff_toInt_lt, nIm1_toInt h]
      rw [Int32.le_iff_toInt_le, nI_toInt (by omega)] at h1
      omega
theorem zo01 {p : Prop} [Decidable p] : (if p then (0 : Int32) else 1) = 0 ∨ (if p then (0 : Int32) else 1) = 1 := by
  split
  · exact Or.inl rfl
  · exact Or.inr rfl
theorem cfI01 {wd : Nat → Int32} {b r0 : Int32} (h : r0 = 0 ∨ r0 = 1) : ∀ {i : Nat}, cfI wd b r0 i = 0 ∨ cfI wd b r0 i = 1
  | 0 => h
  | i + 1 => by
    have ih := cfI01 (wd := wd) (b := b) h (i := i)
    show cfI wd b r0 i &&& (if wd i < b then 0 else 1) = 0 ∨ cfI wd b r0 i &&& (if wd i < b then 0 else 1) = 1
    rcases ih with e | e <;> rw [e] <;> split <;> decide
theorem sgn_iff (x : Int32) : 0 ≤ x ↔ x.toBitVec.msb = false := by
  rw [Int32.le_iff_toInt_le]
  have h := BitVec.toInt_eq_msb_cond x.toBitVec
  have h0 : (0 : Int32).toInt = 0 := rfl
  have e : x.toInt = x.toBitVec.toInt := rfl
  have hl : x.toBitVec.toNat < 2 ^ 32 := x.toBitVec.isLt
  rw [h0, e, h]
  cases hm : x.toBitVec.msb with
  | true =>
    rw [if_pos rfl]
    constructor
    · intro h9
      omega
    · intro h9
      exact absurd h9 (by decide)
  | false =>
    rw [if_neg (by decide)]
    constructor
    · intro _
      rfl
    · intro _
      omega
theorem xor_sgn (x y : Int32) : 0 ≤ (x ^^^ y) ↔ (0 ≤ x ↔ 0 ≤ y) := by
  rw [sgn_iff, sgn_iff, sgn_iff]
  have e : (x ^^^ y).toBitVec = x.toBitVec ^^^ y.toBitVec := rfl
  rw [e, BitVec.msb_xor]
  cases x.toBitVec.msb <;> cases y.toBitVec.msb <;> decide
/-- floor division, the model's way -/
theorem lower_eq {a : Int32} {d : Nat} (h0 : 0 < d) (hd : d ≤ 12) (ha : -(2 ^ 30) ≤ a.toInt) : moLow a (nI d) = flD a (nI d) := by
  have hdi : (nI d).toInt = (d : Int) := nI_toInt (by omega)
  have hdp : 0 ≤ nI d := i32_le (nI_pos (by omega))
  have k0 : (0 : Int32).toInt = 0 := rfl
  unfold moLow flD
  by_cases hn : a < 0
  · rw [if_pos hn, if_neg (fun e => i32_nle hn (((xor_sgn a (nI d)).mp e).mpr hdp))]
    rw [Int32.lt_iff_toInt_lt, k0] at hn
    obtain ⟨m, hm⟩ : ∃ m : Nat, a.toInt = -(m : Int) := ⟨(-a.toInt).toNat, by omega⟩
    have e1 : nI d - 1 - a = nI (d - 1 + m) := by
      apply Int32.toInt_inj.mp
      rw [Int32.toInt_sub, nIm1_toInt (by omega), nI_toInt (by omega), Int.bmod_eq_of_le (by omega) (by omega), hm]
      omega
    have hq : (a / nI d).toInt = -((m / d : Nat) : Int) := by
      rw [Int32.toInt_div, hm, hdi, Int.neg_tdiv, Int.bmod_eq_of_le]
      · rfl
      · have h8 : ((m : Int).tdiv (d : Int)) = ((m / d : Nat) : Int) := rfl
        have h9 : m / d ≤ m := Nat.div_le_self _ _
        rw [h8]
        omega
      · have h8 : ((m : Int).tdiv (d : Int)) = ((m / d : Nat) : Int) := rfl
        have h7 : (0 : Int) ≤ ((m / d : Nat) : Int) := Int.natCast_nonneg _
        rw [h8]
        omega
    have p1 : (0 : Int) ≤ ((m / d : Nat) : Int) := Int.natCast_nonneg _
    have p2 : (0 : Int) ≤ (((d - 1 + m) / d : Nat) : Int) := Int.natCast_nonneg _
    have h9 : m / d ≤ m := Nat.div_le_self _ _
    have hmd : m / d * d ≤ m := Nat.div_mul_le_self _ _
    have hqy : (a / nI d * nI d).toInt = -((m / d * d : Nat) : Int) := by
      rw [Int32.toInt_mul, hq, hdi, Int.neg_mul, Int.bmod_eq_of_le]
      · rfl
      · have h8 : ((m / d : Nat) : Int) * (d : Int) = ((m / d * d : Nat) : Int) := rfl
        rw [h8]
        omega
      · have h8 : ((m / d : Nat) : Int) * (d : Int) = ((m / d * d : Nat) : Int) := rfl
        rw [h8]
        omega
    have e2 : (-((nI d - 1 - a) / nI d)).toInt = -(((d - 1 + m) / d : Nat) : Int) := by
      have h7 : (d - 1 + m) / d ≤ d - 1 + m := Nat.div_le_self _ _
      rw [e1, pk_div (by omega) h0 (by omega), Int32.toInt_neg, nI_toInt (by omega), Int.bmod_eq_of_le (by omega) (by omega)]
    have hdm := Nat.div_add_mod m d
    have hmod : m % d < d := Nat.mod_lt _ h0
    apply Int32.toInt_inj.mp
    rw [e2]
    have hc : m / d * d = d * (m / d) := Nat.mul_comm _ _
    by_cases hx : a / nI d * nI d = a
    · rw [if_pos hx, hq]
      have h6 : (a / nI d * nI d).toInt = a.toInt := by rw [hx]
      rw [hqy, hm] at h6
      have h5 : m / d * d = m := by omega
      have h4 : (d - 1 + m) / d = m / d := by
        have h3 : d - 1 + m = d - 1 + d * (m / d) := by omega
        rw [h3, Nat.add_mul_div_left _ _ h0, Nat.div_eq_of_lt (by omega)]
        omega
      rw [h4]
    · rw [if_neg hx]
      have h5 : m / d * d ≠ m := fun e => hx (Int32.toInt_inj.mp (by rw [hqy, e, hm]))
      have h4 : (d - 1 + m) / d = m / d + 1 := by
        have h3 : d - 1 + m = (m % d - 1) + d * (m / d + 1) := by
          have : d * (m / d + 1) = d * (m / d) + d := Nat.mul_succ _ _
          omega
        rw [h3, Nat.add_mul_div_left _ _ h0, Nat.div_eq_of_lt (by omega)]
        omega
      have k1 : (1 : Int32).toInt = 1 := rfl
      rw [h4, Int32.toInt_sub, hq, k1, Int.bmod_eq_of_le (by omega) (by omega)]
      omega
  · rw [if_neg hn, if_pos ((xor_sgn a (nI d)).mpr ⟨fun _ => hdp, fun _ => i32_le hn⟩)]
theorem qBlock_eq {b : Nat → Int32} {z : BV} (h : bmR b z) {w : Nat} (hw : w ≤ 5) (hk : z.2.1 = 0 ∨ z.2.1 = 1) : (w < 2 → b w = qBlock z w) ∧ (2 ≤ w → b 1 = 1 → b w = qBlock z w) ∧ (2 ≤ w → ¬ b 1 = 1 → tb4 5 2 1 0 (w - 2) = qBlock z w) := by
  obtain ⟨h0, h1, h2, h3, h4, h5⟩ := h
  refine ⟨fun h9 => ?_, fun h9 e => ?_, fun h9 e => ?_⟩
  · match w, h9 with
    | 0, _ => exact h0
    | 1, _ => exact h1
  · have hk1 : ¬ z.2.1 = 0 := fun q => by rw [← h1, e] at q; exact absurd q (by decide)
    match w, hw, h9 with
    | 2, _, _ => exact h2.trans (if_neg hk1).symm
    | 3, _, _ => exact h3.trans (if_neg hk1).symm
    | 4, _, _ => exact h4.trans (if_neg hk1).symm
    | 5, _, _ => exact h5.trans (if_neg hk1).symm
  · have hk1 : z.2.1 = 0 := ne1_of hk (fun q => e (h1.trans q))
    match w, hw, h9 with
    | 2, _, _ => exact (if_pos hk1).symm
    | 3, _, _ => exact (if_pos hk1).symm
    | 4, _, _ => exact (if_pos hk1).symm
    | 5, _, _ => exact (if_pos hk1).symm
theorem qCell_eq {v : CV} {z : MV} {wa : Int32} (hr : cmR v z) (h : ¬ v.1 0 = 0) {w : Nat} (hw1 : 1 ≤ w) (hw : w ≤ 7) : (match w with | 1 => 1 | 2 => z.1 0 | 3 => z.1 1 | 4 => z.1 2 | 5 => z.1 3 | 6 => z.1 4 | _ => z.2.1 2 + z.2.1 3 : Int32) = qCell v wa w := by
  obtain ⟨r1, r2, r3, r4, r5, o0, o1, o2, o3⟩ := hr
  match w, hw1, hw with
  | 1, _, _ => exact (if_neg h).symm
  | 2, _, _ => exact r1.symm.trans (if_neg h).symm
  | 3, _, _ => exact r2.symm.trans (if_neg h).symm
  | 4, _, _ => exact r3.symm.trans (if_neg h).symm
  | 5, _, _ => exact r4.symm.trans (if_neg h).symm
  | 6, _, _ => exact r5.symm.trans (if_neg h).symm
  | 7, _, _ =>
    show z.2.1 2 + z.2.1 3 = if v.1 0 = 0 then 0 else mxMelt v.2.1
    rw [if_neg h, ← o2, ← o3]
    rfl
set_option maxHeartbeats 4000000 in
set_option maxRecDepth 100000 in
/-- ClinkerWorksModel.no -/
theorem c_X11_no (l : Launch) (G : VG) (M : Nat → Nat) (th du mny cl ws : Int32) (nb ny fd aw al y : Nat) (x : Int32) : Mi l G yX11_no cX11_no 2 .int 0 0 0 0 [.ref (M 0), .int x] [[(M 0, .inr (12, [.int th, .ref (M 1), .ref (M 2), .ref aw, .ref al, .ref (M 3), .ref (M 4), .ref (M 5), .ref (M 6), .ref y, .int (nI nb), .int (nI ny), .int du, .int mny, .int cl, .int (nI fd), .int ws]))]] (fun r u => r = 0 ∧ u = [[(M 0, .inr (12, [.int x, .ref (M 1), .ref (M 2), .ref aw, .ref al, .ref (M 3), .ref (M 4), .ref (M 5), .ref (M 6), .ref y, .int (nI nb), .int (nI ny), .int du, .int mny, .int cl, .int (nI fd), .int ws]))]]) := by
  refine Mi_of (by decide) (Nat.le_of_ble_eq_true rfl) (fun pP eE sS mM aA bB tT cC AA QQ hC hr hnm hQ => ?_)
  refine V_aload_n hC dX11_no_0 0 rfl ?_
  refine V_iload_n hC dX11_no_1 1 rfl ?_
  refine V_put hC dX11_no_2 inAX11 tyX11 tyX11_ok nmX11 0 0 rfl rfl rfl 0 (by decide) q1078 rfl rfl (rfl) (rfl) (Nat.le_of_ble_eq_true rfl) (ps' := [[(M 0, .inr (12, [.int x, .ref (M 1), .ref (M 2), .ref aw, .ref al, .ref (M 3), .ref (M 4), .ref (M 5), .ref (M 6), .ref y, .int (nI nb), .int (nI ny), .int du, .int mny, .int cl, .int (nI fd), .int ws]))]]) rfl ?_
  refine V_iconst hC dX11_no_5 (v := 0) (by decide) ?_
  exact V_iret hC hQ hr [0] (u := [[(M 0, .inr (12, [.int x, .ref (M 1), .ref (M 2), .ref aw, .ref al, .ref (M 3), .ref (M 4), .ref (M 5), .ref (M 6), .ref y, .int (nI nb), .int (nI ny), .int du, .int mny, .int cl, .int (nI fd), .int ws]))]]) (by decide) rfl (by decide) (by decide) dX11_no_6 (⟨rfl, rfl⟩)
set_option maxHeartbeats 4000000 in
set_option maxRecDepth 100000 in
/-- ClinkerWorksModel.thrown -/
theorem c_X11_thrown (l : Launch) (G : VG) (M : Nat → Nat) (th du mny cl ws : Int32) (nb ny fd aw al y : Nat) : Mi l G yX11_thrown cX11_thrown 1 .int 0 0 0 0 [.ref (M 0)] [[(M 0, .inr (12, [.int th, .ref (M 1), .ref (M 2), .ref aw, .ref al, .ref (M 3), .ref (M 4), .ref (M 5), .ref (M 6), .ref y, .int (nI nb), .int (nI ny), .int du, .int mny, .int cl, .int (nI fd), .int ws]))]] (fun r u => r = th ∧ u = [[(M 0, .inr (12, [.int th, .ref (M 1), .ref (M 2), .ref aw, .ref al, .ref (M 3), .ref (M 4), .ref (M 5), .ref (M 6), .ref y, .int (nI nb), .int (nI ny), .int du, .int mny, .int cl, .int (nI fd), .int ws]))]]) := by
  refine Mi_of (by decide) (Nat.le_of_ble_eq_true rfl) (fun pP eE sS mM aA bB tT cC AA QQ hC hr hnm hQ => ?_)
  refine V_aload_n hC dX11_thrown_0 0 rfl ?_
  refine V_get hC dX11_thrown_1 inAX11 (mem_at 0 0 rfl rfl) rfl 0 (by decide) q1078 rfl (v := .int th) rfl ?_
  exact V_iret hC hQ hr [0] (u := [[(M 0, .inr (12, [.int th, .ref (M 1), .ref (M 2), .ref aw, .ref al, .ref (M 3), .ref (M 4), .ref (M 5), .ref (M 6), .ref y, .int (nI nb), .int (nI ny), .int du, .int mny, .int cl, .int (nI fd), .int ws]))]]) (by decide) rfl (by decide) (by decide) dX11_thrown_4 (⟨rfl, rfl⟩)
set_option maxHeartbeats 4000000 in
set_option maxRecDepth 100000 in
/-- ClinkerWorksModel.isBlock -/
theorem c_X11_isBlock (l : Launch) (G : VG) (M : Nat → Nat) (th du mny cl ws : Int32) (nb ny fd aw al y : Nat) (x : Int32) (hnb : nb ≤ 1000) : Mi l G yX11_isBlock cX11_isBlock 2 .boolean 1 22 0 0 [.ref (M 0), .int x] [[(M 0, .inr (12, [.int th, .ref (M 1), .ref (M 2), .ref aw, .ref al, .ref (M 3), .ref (M 4), .ref (M 5), .ref (M 6), .ref y, .int (nI nb), .int (nI ny), .int du, .int mny, .int cl, .int (nI fd), .int ws]))]] (fun r u => r = ixB x (nI nb) ∧ u = [[(M 0, .inr (12, [.int th, .ref (M 1), .ref (M 2), .ref aw, .ref al, .ref (M 3), .ref (M 4), .ref (M 5), .ref (M 6), .ref y, .int (nI nb), .int (nI ny), .int du, .int mny, .int cl, .int (nI fd), .int ws]))]]) := by
  refine Mi_of (by decide) (Nat.le_of_ble_eq_true rfl) (fun pP eE sS mM aA bB tT cC AA QQ hC hr hnm hQ => ?_)
  refine V_iload_n hC dX11_isBlock_0 1 rfl ?_
  refine V_iconst hC dX11_isBlock_1 (v := 0) (by decide) ?_
  refine V_aload_n hC dX11_isBlock_2 0 rfl ?_
  refine V_get hC dX11_isBlock_3 inAX11 (mem_at 0 0 rfl rfl) rfl 10 (by decide) q1088 rfl (v := .int (nI nb)) rfl ?_
  refine V_iconst hC dX11_isBlock_6 (v := 1) (by decide) ?_
  refine V_isub hC dX11_isBlock_7 ?_
  refine V_calli hC (V_runS hC (rest := []) [.int x, .int 0, .int ((nI nb) - 1)] (c_X11_in l G x 0 ((nI nb) - 1)) [] rfl (by decide) q1138 q1139 q52 q1140 ⟨by decide, by decide, rfl⟩ ⟨by decide, by decide⟩ rfl (Nat.le_of_ble_eq_true rfl) ⟨by decide, by decide⟩ dX11_isBlock_8) (is := []) rfl [0] (rs := [[(M 0, .inr (12, [.int th, .ref (M 1), .ref (M 2), .ref aw, .ref al, .ref (M 3), .ref (M 4), .ref (M 5), .ref (M 6), .ref y, .int (nI nb), .int (nI ny), .int du, .int mny, .int cl, .int (nI fd), .int ws]))]]) rfl (by decide) (by decide) ?_
  rintro _ _ ⟨rfl, rfl⟩
  refine V_eqi (y := ixB x (nI nb)) (moIn_ix (by omega)) ?_
  exact V_zret hC hQ hr (ixB01) [0] (u := [[(M 0, .inr (12, [.int th, .ref (M 1), .ref (M 2), .ref aw, .ref al, .ref (M 3), .ref (M 4), .ref (M 5), .ref (M 6), .ref y, .int (nI nb), .int (nI ny), .int du, .int mny, .int cl, .int (nI fd), .int ws]))]]) (by decide) rfl (by decide) (by decide) dX11_isBlock_11 (⟨rfl, rfl⟩)
set_option maxHeartbeats 4000000 in
set_option maxRecDepth 100000 in
/-- ClinkerWorksModel.isLot -/
theorem c_X11_isLot (l : Launch) (G : VG) (M : Nat → Nat) (th du mny cl ws : Int32) (nb ny fd aw al y : Nat) (Q : Nat → Nat → Nat) (bl : Nat) (ml : Int32) (Nl nl : Nat) (li : Nat → Nat) (x : Int32) (hnl : nl ≤ 12) : Mi l G yX11_isLot cX11_isLot 2 .boolean 1 22 0 0 [.ref (M 0), .int x] [[(M 0, .inr (12, [.int th, .ref (M 1), .ref (M 2), .ref aw, .ref al, .ref (M 3), .ref (M 4), .ref (M 5), .ref (M 6), .ref y, .int (nI nb), .int (nI ny), .int du, .int mny, .int cl, .int (nI fd), .int ws]))], alP G al bl ml Nl nl (fun κ => (Q (li κ)) 0)] (fun r u => r = ixB x (nI nl) ∧ u = [[(M 0, .inr (12, [.int th, .ref (M 1), .ref (M 2), .ref aw, .ref al, .ref (M 3), .ref (M 4), .ref (M 5), .ref (M 6), .ref y, .int (nI nb), .int (nI ny), .int du, .int mny, .int cl, .int (nI fd), .int ws]))], alP G al bl ml Nl nl (fun κ => (Q (li κ)) 0)]) := by
  refine Mi_of (by decide) (Nat.le_of_ble_eq_true rfl) (fun pP eE sS mM aA bB tT cC AA QQ hC hr hnm hQ => ?_)
  refine V_iload_n hC dX11_isLot_0 1 rfl ?_
  refine V_iconst hC dX11_isLot_1 (v := 0) (by decide) ?_
  refine V_aload_n hC dX11_isLot_2 0 rfl ?_
  refine V_get hC dX11_isLot_3 inAX11 (mem_at 0 0 rfl rfl) rfl 4 (by decide) q1082 rfl (v := .ref al) rfl ?_
  refine V_callFi hC (V_runF hC (rest := [.int 0, .int x]) [] (c_al_size l G al bl ml Nl nl (fun κ => (Q (li κ)) 0)) [1] rfl (by decide) q1170 (by decide +kernel) q1176 q1174 q55 q1178 ⟨by decide, by decide, rfl⟩ ⟨by decide, by decide⟩ rfl (mem_at 1 0 rfl rfl) rfl (Nat.le_of_ble_eq_true rfl) ⟨by decide, by decide⟩ dX11_isLot_6) (is := [1]) rfl [0] (rs := [[(M 0, .inr (12, [.int th, .ref (M 1), .ref (M 2), .ref aw, .ref al, .ref (M 3), .ref (M 4), .ref (M 5), .ref (M 6), .ref y, .int (nI nb), .int (nI ny), .int du, .int mny, .int cl, .int (nI fd), .int ws]))]]) rfl (by decide) (by decide) ?_
  rintro _ _ ⟨rfl, rfl⟩
  refine V_iconst hC dX11_isLot_11 (v := 1) (by decide) ?_
  refine V_isub hC dX11_isLot_12 ?_
  refine V_calli hC (V_runS hC (rest := []) [.int x, .int 0, .int ((nI nl) - 1)] (c_X11_in l G x 0 ((nI nl) - 1)) [] rfl (by decide) q1138 q1139 q52 q1140 ⟨by decide, by decide, rfl⟩ ⟨by decide, by decide⟩ rfl (Nat.le_of_ble_eq_true rfl) ⟨by decide, by decide⟩ dX11_isLot_13) (is := []) rfl [0, 1] (rs := [alP G al bl ml Nl nl (fun κ => (Q (li κ)) 0), [(M 0, .inr (12, [.int th, .ref (M 1), .ref (M 2), .ref aw, .ref al, .ref (M 3), .ref (M 4), .ref (M 5), .ref (M 6), .ref y, .int (nI nb), .int (nI ny), .int du, .int mny, .int cl, .int (nI fd), .int ws]))]]) rfl (by decide) (by decide) ?_
  rintro _ _ ⟨rfl, rfl⟩
  refine V_eqi (y := ixB x (nI nl)) (moIn_ix (by omega)) ?_
  exact V_zret hC hQ hr (ixB01) [1, 0] (u := [[(M 0, .inr (12, [.int th, .ref (M 1), .ref (M 2), .ref aw, .ref al, .ref (M 3), .ref (M 4), .ref (M 5), .ref (M 6), .ref y, .int (nI nb), .int (nI ny), .int du, .int mny, .int cl, .int (nI fd), .int ws]))], alP G al bl ml Nl nl (fun κ => (Q (li κ)) 0)]) (by decide) rfl (by decide) (by decide) dX11_isLot_16 (⟨rfl, rfl⟩)
set_option maxHeartbeats 4000000 in
set_option maxRecDepth 100000 in
/-- ClinkerWorksModel.pile -/
theorem c_X11_pile (l : Launch) (G : VG) (M : Nat → Nat) (th du mny cl ws : Int32) (nb ny fd aw al y : Nat) (yR : Nat → Nat) (ym : Nat → Nat → Int32) (g : Nat → Int32) (hny : ny ≤ 8) (hg : ∀ k, k < ny → ym k 1 = g k) : Mi l G yX11_pile cX11_pile 3 .int 0 0 0 0 [.ref (M 0)] [[(M 0, .inr (12, [.int th, .ref (M 1), .ref (M 2), .ref aw, .ref al, .ref (M 3), .ref (M 4), .ref (M 5), .ref (M 6), .ref y, .int (nI nb), .int (nI ny), .int du, .int mny, .int cl, .int (nI fd), .int ws]))], [(M 2, .inl (G.2.1 9, 8, .inr (.inr (.inr (.inr (rfN 8 yR))))))], famW 8 (fun ι => iaP G (yR ι) 2 (ym ι))] (fun r u => r = sm g ny ∧ u = [[(M 0, .inr (12, [.int th, .ref (M 1), .ref (M 2), .ref aw, .ref al, .ref (M 3), .ref (M 4), .ref (M 5), .ref (M 6), .ref y, .int (nI nb), .int (nI ny), .int du, .int mny, .int cl, .int (nI fd), .int ws]))], [(M 2, .inl (G.2.1 9, 8, .inr (.inr (.inr (.inr (rfN 8 yR))))))], famW 8 (fun ι => iaP G (yR ι) 2 (ym ι))]) := by
  refine Mi_of (by decide) (Nat.le_of_ble_eq_true rfl) (fun pP eE sS mM aA bB tT cC AA QQ hC hr hnm hQ => ?_)
  refine V_iconst hC dX11_pile_0 (v := 0) (by decide) ?_
  refine V_istore_n hC dX11_pile_1 (L' := [(1, .int 0), (0, .ref (M 0))]) (by decide) rfl ?_
  refine V_iconst hC dX11_pile_2 (v := 0) (by decide) ?_
  refine V_istore_n hC dX11_pile_3 (L' := [(2, .int 0), (1, .int 0), (0, .ref (M 0))]) (by decide) rfl ?_
  have loop1 : ∀ (fuel : Nat) (i : Nat) (hi : i ≤ ny) (_ : ny - i < fuel), V pP l eE { frames := 0, cells := 0, slots := 0, locals := 0 } sS mM aA bB tT cC QQ G AA 3 [[(M 0, .inr (12, [.int th, .ref (M 1), .ref (M 2), .ref aw, .ref al, .ref (M 3), .ref (M 4), .ref (M 5), .ref (M 6), .ref y, .int (nI nb), .int (nI ny), .int du, .int mny, .int cl, .int (nI fd), .int ws]))], [(M 2, .inl (G.2.1 9, 8, .inr (.inr (.inr (.inr (rfN 8 yR))))))], famW 8 (fun ι => iaP G (yR ι) 2 (ym ι))] 0 0 4 [(0, .ref (M 0)), (1, .int (sm g i)), (2, .int (nI i))] [] := by
    intro fuel
    induction fuel with
    | zero => intro i hi hm; exact absurd hm (Nat.not_lt_zero _)
    | succ fuel ih =>
      intro i hi hm
      refine V_iload_n hC dX11_pile_4 2 rfl ?_
      refine V_aload_n hC dX11_pile_5 0 rfl ?_
      refine V_get hC dX11_pile_6 inAX11 (mem_at 0 0 rfl rfl) rfl 11 (by decide) q1089 rfl (v := .int (nI ny)) rfl ?_
      refine V_icmp_ge hC dX11_pile_9 (tgt := 29) (by decide) (fun h2 => ?_) (fun h2 => ?_)
      · have he : i = ny := by have := nle h2; omega
        rw [he]
        refine V_iload_n hC dX11_pile_29 1 rfl ?_
        exact V_iret hC hQ hr [0, 1, 2] (u := [[(M 0, .inr (12, [.int th, .ref (M 1), .ref (M 2), .ref aw, .ref al, .ref (M 3), .ref (M 4), .ref (M 5), .ref (M 6), .ref y, .int (nI nb), .int (nI ny), .int du, .int mny, .int cl, .int (nI fd), .int ws]))], [(M 2, .inl (G.2.1 9, 8, .inr (.inr (.inr (.inr (rfN 8 yR))))))], famW 8 (fun ι => iaP G (yR ι) 2 (ym ι))]) (by decide) rfl (by decide) (by decide) dX11_pile_30 (⟨rfl, rfl⟩)
      · have hlt := nnle h2
        refine V_iload_n hC dX11_pile_12 1 rfl ?_
        refine V_aload_n hC dX11_pile_13 0 rfl ?_
        refine V_get hC dX11_pile_14 inAX11 (mem_at 0 0 rfl rfl) rfl 2 (by decide) q1080 rfl (v := .ref (M 2)) rfl ?_
        refine V_iload_n hC dX11_pile_17 2 rfl ?_
        refine V_aaldI hC dX11_pile_18 (mem_at 1 0 rfl rfl) (vp_in_nI (by omega) (by omega)) (x := i) (nI_clamp (by omega)) (b := yR i) (rfN_at ((by omega))) ?_
        refine V_iconst hC dX11_pile_19 (v := 1) (by decide) ?_
        refine V_iald hC dX11_pile_20 (mem_fam 2 0 rfl i ((by omega)) rfl) (vin (by decide)) (x := 1) (by decide) ?_
        refine V_eqi (y := g i) (hg i hlt) ?_
        refine V_iadd hC dX11_pile_21 ?_
        refine V_istore_n hC dX11_pile_22 (L' := [(1, .int ((sm g i) + (g i))), (0, .ref (M 0)), (2, .int (nI i))]) (by decide) rfl ?_
        refine V_iinc hC dX11_pile_23 (v := nI (i + 1)) (L' := [(2, .int (nI (i + 1))), (1, .int ((sm g i) + (g i))), (0, .ref (M 0))]) (j := 2) rfl (nI_1 _) (by decide) rfl ?_
        refine V_goto hC dX11_pile_26 (tgt := 4) (by decide) ?_
        refine V_loc (L' := [(0, .ref (M 0)), (1, .int ((sm g i) + (g i))), (2, .int (nI (i + 1)))]) [2, 1, 0] rfl ?_
        exact ih (i + 1) (by omega) (by omega)
  refine V_loc (L' := [(0, .ref (M 0)), (1, .int 0), (2, .int 0)]) [2, 1, 0] rfl ?_
  exact loop1 (ny + 1) 0 (Nat.zero_le _) (by omega)
set_option maxHeartbeats 4000000 in
set_option maxRecDepth 100000 in
/-- ClinkerWorksModel.inWindow -/
theorem c_X11_inWindow (l : Launch) (G : VG) (M : Nat → Nat) (th du mny cl ws : Int32) (nb ny fd aw al y : Nat) (hfd : fd < 2 ^ 31) : Mi l G yX11_inWindow cX11_inWindow 1 .int 1 13 0 0 [.ref (M 0)] [[(M 0, .inr (12, [.int th, .ref (M 1), .ref (M 2), .ref aw, .ref al, .ref (M 3), .ref (M 4), .ref (M 5), .ref (M 6), .ref y, .int (nI nb), .int (nI ny), .int du, .int mny, .int cl, .int (nI fd), .int ws]))]] (fun r u => r = nI (wnM fd) ∧ u = [[(M 0, .inr (12, [.int th, .ref (M 1), .ref (M 2), .ref aw, .ref al, .ref (M 3), .ref (M 4), .ref (M 5), .ref (M 6), .ref y, .int (nI nb), .int (nI ny), .int du, .int mny, .int cl, .int (nI fd), .int ws]))]]) := by
  refine Mi_of (by decide) (Nat.le_of_ble_eq_true rfl) (fun pP eE sS mM aA bB tT cC AA QQ hC hr hnm hQ => ?_)
  refine V_bipush hC dX11_inWindow_0 (v := 6) (by decide) ?_
  refine V_aload_n hC dX11_inWindow_2 0 rfl ?_
  refine V_get hC dX11_inWindow_3 inAX11 (mem_at 0 0 rfl rfl) rfl 15 (by decide) q1093 rfl (v := .int (nI fd)) rfl ?_
  refine V_mmin hC q1160 q629 q65 q630 (by decide) (Nat.le_of_ble_eq_true rfl) (by decide) (by decide) dX11_inWindow_6 ?_
  refine V_eqi (y := nI (wnM fd)) (mn6 hfd) ?_
  exact V_iret hC hQ hr [0] (u := [[(M 0, .inr (12, [.int th, .ref (M 1), .ref (M 2), .ref aw, .ref al, .ref (M 3), .ref (M 4), .ref (M 5), .ref (M 6), .ref y, .int (nI nb), .int (nI ny), .int du, .int mny, .int cl, .int (nI fd), .int ws]))]]) (by decide) rfl (by decide) (by decide) dX11_inWindow_9 (⟨rfl, rfl⟩)
set_option maxHeartbeats 4000000 in
set_option maxRecDepth 100000 in
/-- ClinkerWorksModel.sum -/
theorem c_X11_sum (l : Launch) (G : VG) (M : Nat → Nat) (th du mny cl ws : Int32) (nb ny fd aw al y : Nat) (wd : Nat → Int32) (hfd : fd < 2 ^ 31) : Mi l G yX11_sum cX11_sum 3 .int 2 33 0 0 [.ref (M 0)] [[(M 0, .inr (12, [.int th, .ref (M 1), .ref (M 2), .ref aw, .ref al, .ref (M 3), .ref (M 4), .ref (M 5), .ref (M 6), .ref y, .int (nI nb), .int (nI ny), .int du, .int mny, .int cl, .int (nI fd), .int ws]))], [(M 6, .inl (G.2.1 0, 6, .inl wd))]] (fun r u => r = sm wd (wnM fd) ∧ u = [[(M 0, .inr (12, [.int th, .ref (M 1), .ref (M 2), .ref aw, .ref al, .ref (M 3), .ref (M 4), .ref (M 5), .ref (M 6), .ref y, .int (nI nb), .int (nI ny), .int du, .int mny, .int cl, .int (nI fd), .int ws]))], [(M 6, .inl (G.2.1 0, 6, .inl wd))]]) := by
  refine Mi_of (by decide) (Nat.le_of_ble_eq_true rfl) (fun pP eE sS mM aA bB tT cC AA QQ hC hr hnm hQ => ?_)
  have hw6 : wnM fd ≤ 6 := Nat.min_le_left _ _
  refine V_iconst hC dX11_sum_0 (v := 0) (by decide) ?_
  refine V_istore_n hC dX11_sum_1 (L' := [(1, .int 0), (0, .ref (M 0))]) (by decide) rfl ?_
  refine V_iconst hC dX11_sum_2 (v := 0) (by decide) ?_
  refine V_istore_n hC dX11_sum_3 (L' := [(2, .int 0), (1, .int 0), (0, .ref (M 0))]) (by decide) rfl ?_
  have loop1 : ∀ (fuel : Nat) (i : Nat) (hi : i ≤ wnM fd) (_ : wnM fd - i < fuel), V pP l eE { frames := 2, cells := 0, slots := 0, locals := 33 } sS mM aA bB tT cC QQ G AA 3 [[(M 0, .inr (12, [.int th, .ref (M 1), .ref (M 2), .ref aw, .ref al, .ref (M 3), .ref (M 4), .ref (M 5), .ref (M 6), .ref y, .int (nI nb), .int (nI ny), .int du, .int mny, .int cl, .int (nI fd), .int ws]))], [(M 6, .inl (G.2.1 0, 6, .inl wd))]] 0 0 4 [(0, .ref (M 0)), (1, .int (sm wd i)), (2, .int (nI i))] [] := by
    intro fuel
    induction fuel with
    | zero => intro i hi hm; exact absurd hm (Nat.not_lt_zero _)
    | succ fuel ih =>
      intro i hi hm
      refine V_iload_n hC dX11_sum_4 2 rfl ?_
      refine V_aload_n hC dX11_sum_5 0 rfl ?_
      refine V_calli hC (V_runV hC (rest := [.int (nI i)]) [] (c_X11_inWindow l G M th du mny cl ws nb ny fd aw al y hfd) [0] rfl (by decide) q1396 q1398 q32 q52 q1399 ⟨by decide, by decide, rfl⟩ ⟨by decide, by decide⟩ (ci := 12) rfl (mem_at 0 0 rfl rfl) rfl (Nat.le_of_ble_eq_true rfl) ⟨by decide, by decide⟩ dX11_sum_6) (is := [0]) rfl [1] (rs := [[(M 6, .inl (G.2.1 0, 6, .inl wd))]]) rfl (by decide) (by decide) ?_
      rintro _ _ ⟨rfl, rfl⟩
      refine V_icmp_ge hC dX11_sum_9 (tgt := 27) (by decide) (fun h2 => ?_) (fun h2 => ?_)
      · have he : i = wnM fd := by have := nle h2; omega
        rw [he]
        refine V_iload_n hC dX11_sum_27 1 rfl ?_
        exact V_iret hC hQ hr [0, 1] (u := [[(M 0, .inr (12, [.int th, .ref (M 1), .ref (M 2), .ref aw, .ref al, .ref (M 3), .ref (M 4), .ref (M 5), .ref (M 6), .ref y, .int (nI nb), .int (nI ny), .int du, .int mny, .int cl, .int (nI fd), .int ws]))], [(M 6, .inl (G.2.1 0, 6, .inl wd))]]) (by decide) rfl (by decide) (by decide) dX11_sum_28 (⟨rfl, rfl⟩)
      · have hlt := nnle h2
        refine V_iload_n hC dX11_sum_12 1 rfl ?_
        refine V_aload_n hC dX11_sum_13 0 rfl ?_
        refine V_get hC dX11_sum_14 inAX11 (mem_at 0 0 rfl rfl) rfl 8 (by decide) q1086 rfl (v := .ref (M 6)) rfl ?_
        refine V_iload_n hC dX11_sum_17 2 rfl ?_
        refine V_iald hC dX11_sum_18 (mem_at 1 0 rfl rfl) (vp_in_nI (by omega) (by omega)) (x := i) (nI_clamp (by omega)) ?_
        refine V_iadd hC dX11_sum_19 ?_
        refine V_istore_n hC dX11_sum_20 (L' := [(1, .int ((sm wd i) + (wd i))), (0, .ref (M 0)), (2, .int (nI i))]) (by decide) rfl ?_
        refine V_iinc hC dX11_sum_21 (v := nI (i + 1)) (L' := [(2, .int (nI (i + 1))), (1, .int ((sm wd i) + (wd i))), (0, .ref (M 0))]) (j := 2) rfl (nI_1 _) (by decide) rfl ?_
        refine V_goto hC dX11_sum_24 (tgt := 4) (by decide) ?_
        refine V_loc (L' := [(0, .ref (M 0)), (1, .int ((sm wd i) + (wd i))), (2, .int (nI (i + 1)))]) [2, 1, 0] rfl ?_
        exact ih (i + 1) (by omega) (by omega)
  refine V_loc (L' := [(0, .ref (M 0)), (1, .int 0), (2, .int 0)]) [2, 1, 0] rfl ?_
  exact loop1 (wnM fd + 1) 0 (Nat.zero_le _) (by omega)
set_option maxHeartbeats 4000000 in
set_option maxRecDepth 100000 in
/-- ClinkerWorksModel.conformNow -/
theorem c_X11_conformNow (l : Launch) (G : VG) (M : Nat → Nat) (th du mny cl ws : Int32) (nb ny fd aw al y : Nat) (wd : Nat → Int32) (hfd : fd < 2 ^ 31) : Mi l G yX11_conformNow cX11_conformNow 3 .boolean 3 55 0 0 [.ref (M 0)] [[(M 0, .inr (12, [.int th, .ref (M 1), .ref (M 2), .ref aw, .ref al, .ref (M 3), .ref (M 4), .ref (M 5), .ref (M 6), .ref y, .int (nI nb), .int (nI ny), .int du, .int mny, .int cl, .int (nI fd), .int ws]))], [(M 6, .inl (G.2.1 0, 6, .inl wd))]] (fun r u => r = cfI wd (ws - 4) (if sm wd (wnM fd) < ws * nI (wnM fd) then 0 else 1) (wnM fd) ∧ u = [[(M 0, .inr (12, [.int th, .ref (M 1), .ref (M 2), .ref aw, .ref al, .ref (M 3), .ref (M 4), .ref (M 5), .ref (M 6), .ref y, .int (nI nb), .int (nI ny), .int du, .int mny, .int cl, .int (nI fd), .int ws]))], [(M 6, .inl (G.2.1 0, 6, .inl wd))]]) := by
  refine Mi_of (by decide) (Nat.le_of_ble_eq_true rfl) (fun pP eE sS mM aA bB tT cC AA QQ hC hr hnm hQ => ?_)
  have hw6 : wnM fd ≤ 6 := Nat.min_le_left _ _
  refine V_aload_n hC dX11_conformNow_0 0 rfl ?_
  refine V_calli hC (V_runV hC (rest := []) [] (c_X11_sum l G M th du mny cl ws nb ny fd aw al y wd hfd) [0, 1] rfl (by decide) q1392 q1394 q31 q52 q1395 ⟨by decide, by decide, rfl⟩ ⟨by decide, by decide⟩ (ci := 12) rfl (mem_at 0 0 rfl rfl) rfl (Nat.le_of_ble_eq_true rfl) ⟨by decide, by decide⟩ dX11_conformNow_1) (is := [0, 1]) rfl [] (rs := []) rfl (by decide) (by decide) ?_
  rintro _ _ ⟨rfl, rfl⟩
  refine V_aload_n hC dX11_conformNow_4 0 rfl ?_
  refine V_get hC dX11_conformNow_5 inAX11 (mem_at 0 0 rfl rfl) rfl 16 (by decide) q1094 rfl (v := .int ws) rfl ?_
  refine V_aload_n hC dX11_conformNow_8 0 rfl ?_
  refine V_calli hC (V_runV hC (rest := [.int ws, .int (sm wd (wnM fd))]) [] (c_X11_inWindow l G M th du mny cl ws nb ny fd aw al y hfd) [0] rfl (by decide) q1396 q1398 q32 q52 q1399 ⟨by decide, by decide, rfl⟩ ⟨by decide, by decide⟩ (ci := 12) rfl (mem_at 0 0 rfl rfl) rfl (Nat.le_of_ble_eq_true rfl) ⟨by decide, by decide⟩ dX11_conformNow_9) (is := [0]) rfl [1] (rs := [[(M 6, .inl (G.2.1 0, 6, .inl wd))]]) rfl (by decide) (by decide) ?_
  rintro _ _ ⟨rfl, rfl⟩
  refine V_imul hC dX11_conformNow_12 ?_
  refine V_icmp_lt hC dX11_conformNow_13 (tgt := 20) (by decide) (fun h1 => ?_) (fun h1 => ?_)
  · refine V_iconst hC dX11_conformNow_20 (v := 0) (by decide) ?_
    refine V_eqi (y := (if sm wd (wnM fd) < ws * nI (wnM fd) then 0 else 1)) ((if_pos h1).symm) ?_
    refine V_istore_n hC dX11_conformNow_21 (L' := [(1, .int (if sm wd (wnM fd) < ws * nI (wnM fd) then 0 else 1)), (0, .ref (M 0))]) (by decide) rfl ?_
    refine V_iconst hC dX11_conformNow_22 (v := 0) (by decide) ?_
    refine V_istore_n hC dX11_conformNow_23 (L' := [(2, .int 0), (1, .int (if sm wd (wnM fd) < ws * nI (wnM fd) then 0 else 1)), (0, .ref (M 0))]) (by decide) rfl ?_
    have loop2 : ∀ (fuel : Nat) (i : Nat) (hi : i ≤ wnM fd) (_ : wnM fd - i < fuel), V pP l eE { frames := 3, cells := 0, slots := 0, locals := 55 } sS mM aA bB tT cC QQ G AA 3 [[(M 0, .inr (12, [.int th, .ref (M 1), .ref (M 2), .ref aw, .ref al, .ref (M 3), .ref (M 4), .ref (M 5), .ref (M 6), .ref y, .int (nI nb), .int (nI ny), .int du, .int mny, .int cl, .int (nI fd), .int ws]))], [(M 6, .inl (G.2.1 0, 6, .inl wd))]] 0 0 24 [(0, .ref (M 0)), (1, .int (cfI wd (ws - 4) (if sm wd (wnM fd) < ws * nI (wnM fd) then 0 else 1) i)), (2, .int (nI i))] [] := by
      intro fuel
      induction fuel with
      | zero => intro i hi hm; exact absurd hm (Nat.not_lt_zero _)
      | succ fuel ih =>
        intro i hi hm
        refine V_iload_n hC dX11_conformNow_24 2 rfl ?_
        refine V_aload_n hC dX11_conformNow_25 0 rfl ?_
        refine V_calli hC (V_runV hC (rest := [.int (nI i)]) [] (c_X11_inWindow l G M th du mny cl ws nb ny fd aw al y hfd) [0] rfl (by decide) q1396 q1398 q32 q52 q1399 ⟨by decide, by decide, rfl⟩ ⟨by decide, by decide⟩ (ci := 12) rfl (mem_at 0 0 rfl rfl) rfl (Nat.le_of_ble_eq_true rfl) ⟨by decide, by decide⟩ dX11_conformNow_26) (is := [0]) rfl [1] (rs := [[(M 6, .inl (G.2.1 0, 6, .inl wd))]]) rfl (by decide) (by decide) ?_
        rintro _ _ ⟨rfl, rfl⟩
        refine V_icmp_ge hC dX11_conformNow_29 (tgt := 61) (by decide) (fun h3 => ?_) (fun h3 => ?_)
        · have he : i = wnM fd := by have := nle h3; omega
          rw [he]
          refine V_iload_n hC dX11_conformNow_61 1 rfl ?_
          exact V_zret hC hQ hr (cfI01 zo01) [0, 1] (u := [[(M 0, .inr (12, [.int th, .ref (M 1), .ref (M 2), .ref aw, .ref al, .ref (M 3), .ref (M 4), .ref (M 5), .ref (M 6), .ref y, .int (nI nb), .int (nI ny), .int du, .int mny, .int cl, .int (nI fd), .int ws]))], [(M 6, .inl (G.2.1 0, 6, .inl wd))]]) (by decide) rfl (by decide) (by decide) dX11_conformNow_62 (⟨rfl, rfl⟩)
        · have hlt := nnle h3
          refine V_iload_n hC dX11_conformNow_32 1 rfl ?_
          refine V_aload_n hC dX11_conformNow_33 0 rfl ?_
          refine V_get hC dX11_conformNow_34 inAX11 (mem_at 0 0 rfl rfl) rfl 8 (by decide) q1086 rfl (v := .ref (M 6)) rfl ?_
          refine V_iload_n hC dX11_conformNow_37 2 rfl ?_
          refine V_iald hC dX11_conformNow_38 (mem_at 1 0 rfl rfl) (vp_in_nI (by omega) (by omega)) (x := i) (nI_clamp (by omega)) ?_
          refine V_aload_n hC dX11_conformNow_39 0 rfl ?_
          refine V_get hC dX11_conformNow_40 inAX11 (mem_at 0 0 rfl rfl) rfl 16 (by decide) q1094 rfl (v := .int ws) rfl ?_
          refine V_iconst hC dX11_conformNow_43 (v := 4) (by decide) ?_
          refine V_isub hC dX11_conformNow_44 ?_
          refine V_icmp_lt hC dX11_conformNow_45 (tgt := 52) (by decide) (fun h4 => ?_) (fun h4 => ?_)
          · refine V_iconst hC dX11_conformNow_52 (v := 0) (by decide) ?_
            refine V_iand hC dX11_conformNow_53 ?_
            refine V_istore_n hC dX11_conformNow_54 (L' := [(1, .int ((cfI wd (ws - 4) (if sm wd (wnM fd) < ws * nI (wnM fd) then 0 else 1) i) &&& 0)), (0, .ref (M 0)), (2, .int (nI i))]) (by decide) rfl ?_
            refine V_iinc hC dX11_conformNow_55 (v := nI (i + 1)) (L' := [(2, .int (nI (i + 1))), (1, .int ((cfI wd (ws - 4) (if sm wd (wnM fd) < ws * nI (wnM fd) then 0 else 1) i) &&& 0)), (0, .ref (M 0))]) (j := 2) rfl (nI_1 _) (by decide) rfl ?_
            refine V_goto hC dX11_conformNow_58 (tgt := 24) (by decide) ?_
            refine V_loc (L' := [(0, .ref (M 0)), (1, .int ((cfI wd (ws - 4) (if sm wd (wnM fd) < ws * nI (wnM fd) then 0 else 1) i) &&& 0)), (2, .int (nI (i + 1)))]) [2, 1, 0] rfl ?_
            have hh := ih (i + 1) (by omega) (by omega)
            rw [show cfI wd (ws - 4) (if sm wd (wnM fd) < ws * nI (wnM fd) then 0 else 1) (i + 1) = cfI wd (ws - 4) (if sm wd (wnM fd) < ws * nI (wnM fd) then 0 else 1) i &&& (if wd i < ws - 4 then 0 else 1) from rfl, if_pos h4] at hh
            exact hh
          · refine V_iconst hC dX11_conformNow_48 (v := 1) (by decide) ?_
            refine V_goto hC dX11_conformNow_49 (tgt := 53) (by decide) ?_
            refine V_iand hC dX11_conformNow_53 ?_
            refine V_istore_n hC dX11_conformNow_54 (L' := [(1, .int ((cfI wd (ws - 4) (if sm wd (wnM fd) < ws * nI (wnM fd) then 0 else 1) i) &&& 1)), (0, .ref (M 0)), (2, .int (nI i))]) (by decide) rfl ?_
            refine V_iinc hC dX11_conformNow_55 (v := nI (i + 1)) (L' := [(2, .int (nI (i + 1))), (1, .int ((cfI wd (ws - 4) (if sm wd (wnM fd) < ws * nI (wnM fd) then 0 else 1) i) &&& 1)), (0, .ref (M 0))]) (j := 2) rfl (nI_1 _) (by decide) rfl ?_
            refine V_goto hC dX11_conformNow_58 (tgt := 24) (by decide) ?_
            refine V_loc (L' := [(0, .ref (M 0)), (1, .int ((cfI wd (ws - 4) (if sm wd (wnM fd) < ws * nI (wnM fd) then 0 else 1) i) &&& 1)), (2, .int (nI (i + 1)))]) [2, 1, 0] rfl ?_
            have hh := ih (i + 1) (by omega) (by omega)
            rw [show cfI wd (ws - 4) (if sm wd (wnM fd) < ws * nI (wnM fd) then 0 else 1) (i + 1) = cfI wd (ws - 4) (if sm wd (wnM fd) < ws * nI (wnM fd) then 0 else 1) i &&& (if wd i < ws - 4 then 0 else 1) from rfl, if_neg h4] at hh
            exact hh
    refine V_loc (L' := [(0, .ref (M 0)), (1, .int (if sm wd (wnM fd) < ws * nI (wnM fd) then 0 else 1)), (2, .int 0)]) [2, 1, 0] rfl ?_
    exact loop2 (wnM fd + 1) 0 (Nat.zero_le _) (by omega)
  · refine V_iconst hC dX11_conformNow_16 (v := 1) (by decide) ?_
    refine V_goto hC dX11_conformNow_17 (tgt := 21) (by decide) ?_
    refine V_eqi (y := (if sm wd (wnM fd) < ws * nI (wnM fd) then 0 else 1)) ((if_neg h1).symm) ?_
    refine V_istore_n hC dX11_conformNow_21 (L' := [(1, .int (if sm wd (wnM fd) < ws * nI (wnM fd) then 0 else 1)), (0, .ref (M 0))]) (by decide) rfl ?_
    refine V_iconst hC dX11_conformNow_22 (v := 0) (by decide) ?_
    refine V_istore_n hC dX11_conformNow_23 (L' := [(2, .int 0), (1, .int (if sm wd (wnM fd) < ws * nI (wnM fd) then 0 else 1)), (0, .ref (M 0))]) (by decide) rfl ?_
    have loop5 : ∀ (fuel : Nat) (i : Nat) (hi : i ≤ wnM fd) (_ : wnM fd - i < fuel), V pP l eE { frames := 3, cells := 0, slots := 0, locals := 55 } sS mM aA bB tT cC QQ G AA 3 [[(M 0, .inr (12, [.int th, .ref (M 1), .ref (M 2), .ref aw, .ref al, .ref (M 3), .ref (M 4), .ref (M 5), .ref (M 6), .ref y, .int (nI nb), .int (nI ny), .int du, .int mny, .int cl, .int (nI fd), .int ws]))], [(M 6, .inl (G.2.1 0, 6, .inl wd))]] 0 0 24 [(0, .ref (M 0)), (1, .int (cfI wd (ws - 4) (if sm wd (wnM fd) < ws * nI (wnM fd) then 0 else 1) i)), (2, .int (nI i))] [] := by
      intro fuel
      induction fuel with
      | zero => intro i hi hm; exact absurd hm (Nat.not_lt_zero _)
      | succ fuel ih =>
        intro i hi hm
        refine V_iload_n hC dX11_conformNow_24 2 rfl ?_
        refine V_aload_n hC dX11_conformNow_25 0 rfl ?_
        refine V_calli hC (V_runV hC (rest := [.int (nI i)]) [] (c_X11_inWindow l G M th du mny cl ws nb ny fd aw al y hfd) [0] rfl (by decide) q1396 q1398 q32 q52 q1399 ⟨by decide, by decide, rfl⟩ ⟨by decide, by decide⟩ (ci := 12) rfl (mem_at 0 0 rfl rfl) rfl (Nat.le_of_ble_eq_true rfl) ⟨by decide, by decide⟩ dX11_conformNow_26) (is := [0]) rfl [1] (rs := [[(M 6, .inl (G.2.1 0, 6, .inl wd))]]) rfl (by decide) (by decide) ?_
        rintro _ _ ⟨rfl, rfl⟩
        refine V_icmp_ge hC dX11_conformNow_29 (tgt := 61) (by decide) (fun h6 => ?_) (fun h6 => ?_)
        · have he : i = wnM fd := by have := nle h6; omega
          rw [he]
          refine V_iload_n hC dX11_conformNow_61 1 rfl ?_
          exact V_zret hC hQ hr (cfI01 zo01) [0, 1] (u := [[(M 0, .inr (12, [.int th, .ref (M 1), .ref (M 2), .ref aw, .ref al, .ref (M 3), .ref (M 4), .ref (M 5), .ref (M 6), .ref y, .int (nI nb), .int (nI ny), .int du, .int mny, .int cl, .int (nI fd), .int ws]))], [(M 6, .inl (G.2.1 0, 6, .inl wd))]]) (by decide) rfl (by decide) (by decide) dX11_conformNow_62 (⟨rfl, rfl⟩)
        · have hlt := nnle h6
          refine V_iload_n hC dX11_conformNow_32 1 rfl ?_
          refine V_aload_n hC dX11_conformNow_33 0 rfl ?_
          refine V_get hC dX11_conformNow_34 inAX11 (mem_at 0 0 rfl rfl) rfl 8 (by decide) q1086 rfl (v := .ref (M 6)) rfl ?_
          refine V_iload_n hC dX11_conformNow_37 2 rfl ?_
          refine V_iald hC dX11_conformNow_38 (mem_at 1 0 rfl rfl) (vp_in_nI (by omega) (by omega)) (x := i) (nI_clamp (by omega)) ?_
          refine V_aload_n hC dX11_conformNow_39 0 rfl ?_
          refine V_get hC dX11_conformNow_40 inAX11 (mem_at 0 0 rfl rfl) rfl 16 (by decide) q1094 rfl (v := .int ws) rfl ?_
          refine V_iconst hC dX11_conformNow_43 (v := 4) (by decide) ?_
          refine V_isub hC dX11_conformNow_44 ?_
          refine V_icmp_lt hC dX11_conformNow_45 (tgt := 52) (by decide) (fun h7 => ?_) (fun h7 => ?_)
          · refine V_iconst hC dX11_conformNow_52 (v := 0) (by decide) ?_
            refine V_iand hC dX11_conformNow_53 ?_
            refine V_istore_n hC dX11_conformNow_54 (L' := [(1, .int ((cfI wd (ws - 4) (if sm wd (wnM fd) < ws * nI (wnM fd) then 0 else 1) i) &&& 0)), (0, .ref (M 0)), (2, .int (nI i))]) (by decide) rfl ?_
            refine V_iinc hC dX11_conformNow_55 (v := nI (i + 1)) (L' := [(2, .int (nI (i + 1))), (1, .int ((cfI wd (ws - 4) (if sm wd (wnM fd) < ws * nI (wnM fd) then 0 else 1) i) &&& 0)), (0, .ref (M 0))]) (j := 2) rfl (nI_1 _) (by decide) rfl ?_
            refine V_goto hC dX11_conformNow_58 (tgt := 24) (by decide) ?_
            refine V_loc (L' := [(0, .ref (M 0)), (1, .int ((cfI wd (ws - 4) (if sm wd (wnM fd) < ws * nI (wnM fd) then 0 else 1) i) &&& 0)), (2, .int (nI (i + 1)))]) [2, 1, 0] rfl ?_
            have hh := ih (i + 1) (by omega) (by omega)
            rw [show cfI wd (ws - 4) (if sm wd (wnM fd) < ws * nI (wnM fd) then 0 else 1) (i + 1) = cfI wd (ws - 4) (if sm wd (wnM fd) < ws * nI (wnM fd) then 0 else 1) i &&& (if wd i < ws - 4 then 0 else 1) from rfl, if_pos h7] at hh
            exact hh
          · refine V_iconst hC dX11_conformNow_48 (v := 1) (by decide) ?_
            refine V_goto hC dX11_conformNow_49 (tgt := 53) (by decide) ?_
            refine V_iand hC dX11_conformNow_53 ?_
            refine V_istore_n hC dX11_conformNow_54 (L' := [(1, .int ((cfI wd (ws - 4) (if sm wd (wnM fd) < ws * nI (wnM fd) then 0 else 1) i) &&& 1)), (0, .ref (M 0)), (2, .int (nI i))]) (by decide) rfl ?_
            refine V_iinc hC dX11_conformNow_55 (v := nI (i + 1)) (L' := [(2, .int (nI (i + 1))), (1, .int ((cfI wd (ws - 4) (if sm wd (wnM fd) < ws * nI (wnM fd) then 0 else 1) i) &&& 1)), (0, .ref (M 0))]) (j := 2) rfl (nI_1 _) (by decide) rfl ?_
            refine V_goto hC dX11_conformNow_58 (tgt := 24) (by decide) ?_
            refine V_loc (L' := [(0, .ref (M 0)), (1, .int ((cfI wd (ws - 4) (if sm wd (wnM fd) < ws * nI (wnM fd) then 0 else 1) i) &&& 1)), (2, .int (nI (i + 1)))]) [2, 1, 0] rfl ?_
            have hh := ih (i + 1) (by omega) (by omega)
            rw [show cfI wd (ws - 4) (if sm wd (wnM fd) < ws * nI (wnM fd) then 0 else 1) (i + 1) = cfI wd (ws - 4) (if sm wd (wnM fd) < ws * nI (wnM fd) then 0 else 1) i &&& (if wd i < ws - 4 then 0 else 1) from rfl, if_neg h7] at hh
            exact hh
    refine V_loc (L' := [(0, .ref (M 0)), (1, .int (if sm wd (wnM fd) < ws * nI (wnM fd) then 0 else 1)), (2, .int 0)]) [2, 1, 0] rfl ?_
    exact loop5 (wnM fd + 1) 0 (Nat.zero_le _) (by omega)
set_option maxHeartbeats 4000000 in
set_option maxRecDepth 100000 in
/-- ClinkerWorksModel.blockNow -/
theorem c_X11_blockNow (l : Launch) (G : VG) (M : Nat → Nat) (th du mny cl ws : Int32) (nb ny fd aw al y : Nat) (bR : Nat → Nat) (bm : Nat → Nat → Int32) (i w : Nat) (z : BV) (hi : i < 6) (hw : w ≤ 5) (hz : bmR (bm i) z) (hk : z.2.1 = 0 ∨ z.2.1 = 1) : Mi l G yX11_blockNow cX11_blockNow 5 .int 0 0 1 4 [.ref (M 0), .int (nI i), .int (nI w)] [[(M 0, .inr (12, [.int th, .ref (M 1), .ref (M 2), .ref aw, .ref al, .ref (M 3), .ref (M 4), .ref (M 5), .ref (M 6), .ref y, .int (nI nb), .int (nI ny), .int du, .int mny, .int cl, .int (nI fd), .int ws]))], [(M 1, .inl (G.2.1 9, 6, .inr (.inr (.inr (.inr (rfN 6 bR))))))], famW 6 (fun ι => iaP G (bR ι) 6 (bm ι))] (fun r u => r = qBlock z w ∧ u = [[(M 0, .inr (12, [.int th, .ref (M 1), .ref (M 2), .ref aw, .ref al, .ref (M 3), .ref (M 4), .ref (M 5), .ref (M 6), .ref y, .int (nI nb), .int (nI ny), .int du, .int mny, .int cl, .int (nI fd), .int ws]))], [(M 1, .inl (G.2.1 9, 6, .inr (.inr (.inr (.inr (rfN 6 bR))))))], famW 6 (fun ι => iaP G (bR ι) 6 (bm ι))]) := by
  refine Mi_of (by decide) (Nat.le_of_ble_eq_true rfl) (fun pP eE sS mM aA bB tT cC AA QQ hC hr hnm hQ => ?_)
  refine V_iconst hC dX11_blockNow_0 (v := 4) (by decide) ?_
  refine V_newa_i hC q103 (N := 4) (by decide) (by decide) (by decide) (by decide) (by decide) dX11_blockNow_1 (fun q1 => ?_)
  refine V_dup hC dX11_blockNow_3 rfl ?_
  refine V_iconst hC dX11_blockNow_4 (v := 0) (by decide) ?_
  refine V_iconst hC dX11_blockNow_5 (v := 5) (by decide) ?_
  refine V_iast hC dX11_blockNow_6 3 0 rfl rfl (vin (by decide)) (z := 0) (by decide) (ps' := [[(M 0, .inr (12, [.int th, .ref (M 1), .ref (M 2), .ref aw, .ref al, .ref (M 3), .ref (M 4), .ref (M 5), .ref (M 6), .ref y, .int (nI nb), .int (nI ny), .int du, .int mny, .int cl, .int (nI fd), .int ws]))], [(M 1, .inl (G.2.1 9, 6, .inr (.inr (.inr (.inr (rfN 6 bR))))))], famW 6 (fun ι => iaP G (bR ι) 6 (bm ι)), [(q1, .inl (G.2.1 0, 4, .inl (upd (fun _ => 0) 0 5)))]]) rfl ?_
  refine V_dup hC dX11_blockNow_7 rfl ?_
  refine V_iconst hC dX11_blockNow_8 (v := 1) (by decide) ?_
  refine V_iconst hC dX11_blockNow_9 (v := 2) (by decide) ?_
  refine V_iast hC dX11_blockNow_10 3 0 rfl rfl (vin (by decide)) (z := 1) (by decide) (ps' := [[(M 0, .inr (12, [.int th, .ref (M 1), .ref (M 2), .ref aw, .ref al, .ref (M 3), .ref (M 4), .ref (M 5), .ref (M 6), .ref y, .int (nI nb), .int (nI ny), .int du, .int mny, .int cl, .int (nI fd), .int ws]))], [(M 1, .inl (G.2.1 9, 6, .inr (.inr (.inr (.inr (rfN 6 bR))))))], famW 6 (fun ι => iaP G (bR ι) 6 (bm ι)), [(q1, .inl (G.2.1 0, 4, .inl (upd (upd (fun _ => 0) 0 5) 1 2)))]]) rfl ?_
  refine V_dup hC dX11_blockNow_11 rfl ?_
  refine V_iconst hC dX11_blockNow_12 (v := 2) (by decide) ?_
  refine V_iconst hC dX11_blockNow_13 (v := 1) (by decide) ?_
  refine V_iast hC dX11_blockNow_14 3 0 rfl rfl (vin (by decide)) (z := 2) (by decide) (ps' := [[(M 0, .inr (12, [.int th, .ref (M 1), .ref (M 2), .ref aw, .ref al, .ref (M 3), .ref (M 4), .ref (M 5), .ref (M 6), .ref y, .int (nI nb), .int (nI ny), .int du, .int mny, .int cl, .int (nI fd), .int ws]))], [(M 1, .inl (G.2.1 9, 6, .inr (.inr (.inr (.inr (rfN 6 bR))))))], famW 6 (fun ι => iaP G (bR ι) 6 (bm ι)), [(q1, .inl (G.2.1 0, 4, .inl (upd (upd (upd (fun _ => 0) 0 5) 1 2) 2 1)))]]) rfl ?_
  refine V_dup hC dX11_blockNow_15 rfl ?_
  refine V_iconst hC dX11_blockNow_16 (v := 3) (by decide) ?_
  refine V_iconst hC dX11_blockNow_17 (v := 0) (by decide) ?_
  refine V_iast hC dX11_blockNow_18 3 0 rfl rfl (vin (by decide)) (z := 3) (by decide) (ps' := [[(M 0, .inr (12, [.int th, .ref (M 1), .ref (M 2), .ref aw, .ref al, .ref (M 3), .ref (M 4), .ref (M 5), .ref (M 6), .ref y, .int (nI nb), .int (nI ny), .int du, .int mny, .int cl, .int (nI fd), .int ws]))], [(M 1, .inl (G.2.1 9, 6, .inr (.inr (.inr (.inr (rfN 6 bR))))))], famW 6 (fun ι => iaP G (bR ι) 6 (bm ι)), [(q1, .inl (G.2.1 0, 4, .inl (upd (upd (upd (upd (fun _ => 0) 0 5) 1 2) 2 1) 3 0)))]]) rfl ?_
  refine V_astore_n hC dX11_blockNow_19 (L' := [(3, .ref q1), (0, .ref (M 0)), (1, .int (nI i)), (2, .int (nI w))]) (by decide) rfl ?_
  refine V_aload_n hC dX11_blockNow_20 1 rfl ?_
  refine V_get hC dX11_blockNow_21 inAX11 (mem_at 0 0 rfl rfl) rfl 1 (by decide) q1079 rfl (v := .ref (M 1)) rfl ?_
  refine V_iload_n hC dX11_blockNow_24 2 rfl ?_
  refine V_aaldI hC dX11_blockNow_25 (mem_at 1 0 rfl rfl) (vp_in_nI (by omega) (by omega)) (x := i) (nI_clamp (by omega)) (b := bR i) (rfN_at (hi)) ?_
  refine V_astore hC dX11_blockNow_26 (L' := [(4, .ref (bR i)), (3, .ref q1), (0, .ref (M 0)), (1, .int (nI i)), (2, .int (nI w))]) (by decide) rfl ?_
  rcases (show w = 0 ∨ w = 1 ∨ w = 2 ∨ w = 3 ∨ w = 4 ∨ w = 5 by omega) with rfl | rfl | rfl | rfl | rfl | rfl
  · refine V_iload_n hC dX11_blockNow_28 4 rfl ?_
    refine V_iconst hC dX11_blockNow_29 (v := 2) (by decide) ?_
    refine V_icmp_geF hC dX11_blockNow_30 (tgt := 40) (by decide) (by decide) ?_
    refine V_aload hC dX11_blockNow_33 0 rfl ?_
    refine V_iload_n hC dX11_blockNow_35 4 rfl ?_
    refine V_iald hC dX11_blockNow_36 (mem_fam 2 0 rfl i (hi) rfl) (vin (by decide)) (x := 0) (by decide) ?_
    refine V_goto hC dX11_blockNow_37 (tgt := 60) (by decide) ?_
    exact V_iret hC hQ hr [0, 1, 2] (u := [[(M 0, .inr (12, [.int th, .ref (M 1), .ref (M 2), .ref aw, .ref al, .ref (M 3), .ref (M 4), .ref (M 5), .ref (M 6), .ref y, .int (nI nb), .int (nI ny), .int du, .int mny, .int cl, .int (nI fd), .int ws]))], [(M 1, .inl (G.2.1 9, 6, .inr (.inr (.inr (.inr (rfN 6 bR))))))], famW 6 (fun ι => iaP G (bR ι) 6 (bm ι))]) (by decide) rfl (by decide) (by decide) dX11_blockNow_60 (⟨(qBlock_eq (w := 0) hz (by decide) hk).1 (by decide), rfl⟩)
  · refine V_iload_n hC dX11_blockNow_28 4 rfl ?_
    refine V_iconst hC dX11_blockNow_29 (v := 2) (by decide) ?_
    refine V_icmp_geF hC dX11_blockNow_30 (tgt := 40) (by decide) (by decide) ?_
    refine V_aload hC dX11_blockNow_33 0 rfl ?_
    refine V_iload_n hC dX11_blockNow_35 4 rfl ?_
    refine V_iald hC dX11_blockNow_36 (mem_fam 2 0 rfl i (hi) rfl) (vin (by decide)) (x := 1) (by decide) ?_
    refine V_goto hC dX11_blockNow_37 (tgt := 60) (by decide) ?_
    exact V_iret hC hQ hr [0, 1, 2] (u := [[(M 0, .inr (12, [.int th, .ref (M 1), .ref (M 2), .ref aw, .ref al, .ref (M 3), .ref (M 4), .ref (M 5), .ref (M 6), .ref y, .int (nI nb), .int (nI ny), .int du, .int mny, .int cl, .int (nI fd), .int ws]))], [(M 1, .inl (G.2.1 9, 6, .inr (.inr (.inr (.inr (rfN 6 bR))))))], famW 6 (fun ι => iaP G (bR ι) 6 (bm ι))]) (by decide) rfl (by decide) (by decide) dX11_blockNow_60 (⟨(qBlock_eq (w := 1) hz (by decide) hk).1 (by decide), rfl⟩)
  · refine V_iload_n hC dX11_blockNow_28 4 rfl ?_
    refine V_iconst hC dX11_blockNow_29 (v := 2) (by decide) ?_
    refine V_icmp_geT hC dX11_blockNow_30 (tgt := 40) (by decide) (by decide) ?_
    refine V_aload hC dX11_blockNow_40 0 rfl ?_
    refine V_iconst hC dX11_blockNow_42 (v := 1) (by decide) ?_
    refine V_iald hC dX11_blockNow_43 (mem_fam 2 0 rfl i (hi) rfl) (vin (by decide)) (x := 1) (by decide) ?_
    refine V_iconst hC dX11_blockNow_44 (v := 1) (by decide) ?_
    refine V_icmp_ne hC dX11_blockNow_45 (tgt := 55) (by decide) (fun h2 => ?_) (fun h2 => ?_)
    · refine V_aload_n hC dX11_blockNow_55 1 rfl ?_
      refine V_iload_n hC dX11_blockNow_56 4 rfl ?_
      refine V_iconst hC dX11_blockNow_57 (v := 2) (by decide) ?_
      refine V_isub hC dX11_blockNow_58 ?_
      refine V_eqi (y := 0) (by decide) ?_
      refine V_iald hC dX11_blockNow_59 (mem_at 3 0 rfl rfl) (vin (by decide)) (x := 0) (by decide) ?_
      exact V_iret hC hQ hr [0, 1, 2] (u := [[(M 0, .inr (12, [.int th, .ref (M 1), .ref (M 2), .ref aw, .ref al, .ref (M 3), .ref (M 4), .ref (M 5), .ref (M 6), .ref y, .int (nI nb), .int (nI ny), .int du, .int mny, .int cl, .int (nI fd), .int ws]))], [(M 1, .inl (G.2.1 9, 6, .inr (.inr (.inr (.inr (rfN 6 bR))))))], famW 6 (fun ι => iaP G (bR ι) 6 (bm ι))]) (by decide) rfl (by decide) (by decide) dX11_blockNow_60 (⟨(qBlock_eq (w := 2) hz (by decide) hk).2.2 (by decide) h2, rfl⟩)
    · refine V_aload hC dX11_blockNow_48 0 rfl ?_
      refine V_iload_n hC dX11_blockNow_50 4 rfl ?_
      refine V_iald hC dX11_blockNow_51 (mem_fam 2 0 rfl i (hi) rfl) (vin (by decide)) (x := 2) (by decide) ?_
      refine V_goto hC dX11_blockNow_52 (tgt := 60) (by decide) ?_
      exact V_iret hC hQ hr [0, 1, 2] (u := [[(M 0, .inr (12, [.int th, .ref (M 1), .ref (M 2), .ref aw, .ref al, .ref (M 3), .ref (M 4), .ref (M 5), .ref (M 6), .ref y, .int (nI nb), .int (nI ny), .int du, .int mny, .int cl, .int (nI fd), .int ws]))], [(M 1, .inl (G.2.1 9, 6, .inr (.inr (.inr (.inr (rfN 6 bR))))))], famW 6 (fun ι => iaP G (bR ι) 6 (bm ι))]) (by decide) rfl (by decide) (by decide) dX11_blockNow_60 (⟨(qBlock_eq (w := 2) hz (by decide) hk).2.1 (by decide) h2, rfl⟩)
  · refine V_iload_n hC dX11_blockNow_28 4 rfl ?_
    refine V_iconst hC dX11_blockNow_29 (v := 2) (by decide) ?_
    refine V_icmp_geT hC dX11_blockNow_30 (tgt := 40) (by decide) (by decide) ?_
    refine V_aload hC dX11_blockNow_40 0 rfl ?_
    refine V_iconst hC dX11_blockNow_42 (v := 1) (by decide) ?_
    refine V_iald hC dX11_blockNow_43 (mem_fam 2 0 rfl i (hi) rfl) (vin (by decide)) (x := 1) (by decide) ?_
    refine V_iconst hC dX11_blockNow_44 (v := 1) (by decide) ?_
    refine V_icmp_ne hC dX11_blockNow_45 (tgt := 55) (by decide) (fun h3 => ?_) (fun h3 => ?_)
    · refine V_aload_n hC dX11_blockNow_55 1 rfl ?_
      refine V_iload_n hC dX11_blockNow_56 4 rfl ?_
      refine V_iconst hC dX11_blockNow_57 (v := 2) (by decide) ?_
      refine V_isub hC dX11_blockNow_58 ?_
      refine V_eqi (y := 1) (by decide) ?_
      refine V_iald hC dX11_blockNow_59 (mem_at 3 0 rfl rfl) (vin (by decide)) (x := 1) (by decide) ?_
      exact V_iret hC hQ hr [0, 1, 2] (u := [[(M 0, .inr (12, [.int th, .ref (M 1), .ref (M 2), .ref aw, .ref al, .ref (M 3), .ref (M 4), .ref (M 5), .ref (M 6), .ref y, .int (nI nb), .int (nI ny), .int du, .int mny, .int cl, .int (nI fd), .int ws]))], [(M 1, .inl (G.2.1 9, 6, .inr (.inr (.inr (.inr (rfN 6 bR))))))], famW 6 (fun ι => iaP G (bR ι) 6 (bm ι))]) (by decide) rfl (by decide) (by decide) dX11_blockNow_60 (⟨(qBlock_eq (w := 3) hz (by decide) hk).2.2 (by decide) h3, rfl⟩)
    · refine V_aload hC dX11_blockNow_48 0 rfl ?_
      refine V_iload_n hC dX11_blockNow_50 4 rfl ?_
      refine V_iald hC dX11_blockNow_51 (mem_fam 2 0 rfl i (hi) rfl) (vin (by decide)) (x := 3) (by decide) ?_
      refine V_goto hC dX11_blockNow_52 (tgt := 60) (by decide) ?_
      exact V_iret hC hQ hr [0, 1, 2] (u := [[(M 0, .inr (12, [.int th, .ref (M 1), .ref (M 2), .ref aw, .ref al, .ref (M 3), .ref (M 4), .ref (M 5), .ref (M 6), .ref y, .int (nI nb), .int (nI ny), .int du, .int mny, .int cl, .int (nI fd), .int ws]))], [(M 1, .inl (G.2.1 9, 6, .inr (.inr (.inr (.inr (rfN 6 bR))))))], famW 6 (fun ι => iaP G (bR ι) 6 (bm ι))]) (by decide) rfl (by decide) (by decide) dX11_blockNow_60 (⟨(qBlock_eq (w := 3) hz (by decide) hk).2.1 (by decide) h3, rfl⟩)
  · refine V_iload_n hC dX11_blockNow_28 4 rfl ?_
    refine V_iconst hC dX11_blockNow_29 (v := 2) (by decide) ?_
    refine V_icmp_geT hC dX11_blockNow_30 (tgt := 40) (by decide) (by decide) ?_
    refine V_aload hC dX11_blockNow_40 0 rfl ?_
    refine V_iconst hC dX11_blockNow_42 (v := 1) (by decide) ?_
    refine V_iald hC dX11_blockNow_43 (mem_fam 2 0 rfl i (hi) rfl) (vin (by decide)) (x := 1) (by decide) ?_
    refine V_iconst hC dX11_blockNow_44 (v := 1) (by decide) ?_
    refine V_icmp_ne hC dX11_blockNow_45 (tgt := 55) (by decide) (fun h4 => ?_) (fun h4 => ?_)
    · refine V_aload_n hC dX11_blockNow_55 1 rfl ?_
      refine V_iload_n hC dX11_blockNow_56 4 rfl ?_
      refine V_iconst hC dX11_blockNow_57 (v := 2) (by decide) ?_
      refine V_isub hC dX11_blockNow_58 ?_
      refine V_eqi (y := 2) (by decide) ?_
      refine V_iald hC dX11_blockNow_59 (mem_at 3 0 rfl rfl) (vin (by decide)) (x := 2) (by decide) ?_
      exact V_iret hC hQ hr [0, 1, 2] (u := [[(M 0, .inr (12, [.int th, .ref (M 1), .ref (M 2), .ref aw, .ref al, .ref (M 3), .ref (M 4), .ref (M 5), .ref (M 6), .ref y, .int (nI nb), .int (nI ny), .int du, .int mny, .int cl, .int (nI fd), .int ws]))], [(M 1, .inl (G.2.1 9, 6, .inr (.inr (.inr (.inr (rfN 6 bR))))))], famW 6 (fun ι => iaP G (bR ι) 6 (bm ι))]) (by decide) rfl (by decide) (by decide) dX11_blockNow_60 (⟨(qBlock_eq (w := 4) hz (by decide) hk).2.2 (by decide) h4, rfl⟩)
    · refine V_aload hC dX11_blockNow_48 0 rfl ?_
      refine V_iload_n hC dX11_blockNow_50 4 rfl ?_
      refine V_iald hC dX11_blockNow_51 (mem_fam 2 0 rfl i (hi) rfl) (vin (by decide)) (x := 4) (by decide) ?_
      refine V_goto hC dX11_blockNow_52 (tgt := 60) (by decide) ?_
      exact V_iret hC hQ hr [0, 1, 2] (u := [[(M 0, .inr (12, [.int th, .ref (M 1), .ref (M 2), .ref aw, .ref al, .ref (M 3), .ref (M 4), .ref (M 5), .ref (M 6), .ref y, .int (nI nb), .int (nI ny), .int du, .int mny, .int cl, .int (nI fd), .int ws]))], [(M 1, .inl (G.2.1 9, 6, .inr (.inr (.inr (.inr (rfN 6 bR))))))], famW 6 (fun ι => iaP G (bR ι) 6 (bm ι))]) (by decide) rfl (by decide) (by decide) dX11_blockNow_60 (⟨(qBlock_eq (w := 4) hz (by decide) hk).2.1 (by decide) h4, rfl⟩)
  · refine V_iload_n hC dX11_blockNow_28 4 rfl ?_
    refine V_iconst hC dX11_blockNow_29 (v := 2) (by decide) ?_
    refine V_icmp_geT hC dX11_blockNow_30 (tgt := 40) (by decide) (by decide) ?_
    refine V_aload hC dX11_blockNow_40 0 rfl ?_
    refine V_iconst hC dX11_blockNow_42 (v := 1) (by decide) ?_
    refine V_iald hC dX11_blockNow_43 (mem_fam 2 0 rfl i (hi) rfl) (vin (by decide)) (x := 1) (by decide) ?_
    refine V_iconst hC dX11_blockNow_44 (v := 1) (by decide) ?_
    refine V_icmp_ne hC dX11_blockNow_45 (tgt := 55) (by decide) (fun h5 => ?_) (fun h5 => ?_)
    · refine V_aload_n hC dX11_blockNow_55 1 rfl ?_
      refine V_iload_n hC dX11_blockNow_56 4 rfl ?_
      refine V_iconst hC dX11_blockNow_57 (v := 2) (by decide) ?_
      refine V_isub hC dX11_blockNow_58 ?_
      refine V_eqi (y := 3) (by decide) ?_
      refine V_iald hC dX11_blockNow_59 (mem_at 3 0 rfl rfl) (vin (by decide)) (x := 3) (by decide) ?_
      exact V_iret hC hQ hr [0, 1, 2] (u := [[(M 0, .inr (12, [.int th, .ref (M 1), .ref (M 2), .ref aw, .ref al, .ref (M 3), .ref (M 4), .ref (M 5), .ref (M 6), .ref y, .int (nI nb), .int (nI ny), .int du, .int mny, .int cl, .int (nI fd), .int ws]))], [(M 1, .inl (G.2.1 9, 6, .inr (.inr (.inr (.inr (rfN 6 bR))))))], famW 6 (fun ι => iaP G (bR ι) 6 (bm ι))]) (by decide) rfl (by decide) (by decide) dX11_blockNow_60 (⟨(qBlock_eq (w := 5) hz (by decide) hk).2.2 (by decide) h5, rfl⟩)
    · refine V_aload hC dX11_blockNow_48 0 rfl ?_
      refine V_iload_n hC dX11_blockNow_50 4 rfl ?_
      refine V_iald hC dX11_blockNow_51 (mem_fam 2 0 rfl i (hi) rfl) (vin (by decide)) (x := 5) (by decide) ?_
      refine V_goto hC dX11_blockNow_52 (tgt := 60) (by decide) ?_
      exact V_iret hC hQ hr [0, 1, 2] (u := [[(M 0, .inr (12, [.int th, .ref (M 1), .ref (M 2), .ref aw, .ref al, .ref (M 3), .ref (M 4), .ref (M 5), .ref (M 6), .ref y, .int (nI nb), .int (nI ny), .int du, .int mny, .int cl, .int (nI fd), .int ws]))], [(M 1, .inl (G.2.1 9, 6, .inr (.inr (.inr (.inr (rfN 6 bR))))))], famW 6 (fun ι => iaP G (bR ι) 6 (bm ι))]) (by decide) rfl (by decide) (by decide) dX11_blockNow_60 (⟨(qBlock_eq (w := 5) hz (by decide) hk).2.1 (by decide) h5, rfl⟩)
set_option maxHeartbeats 4000000 in
set_option maxRecDepth 100000 in
/-- ClinkerWorksModel.cellNow -/
theorem c_X11_cellNow (l : Launch) (G : VG) (pf : Prop) (M : Nat → Nat) (th du mny cl ws : Int32) (nb ny fd aw al y : Nat) (ce ha wa : Nat) (Q : Nat → Nat → Nat) (ci : Nat → Nat) (S : KS) (NC lb : Nat) (mz : Nat → MV) (i w : Nat) (hK : KM pf S ci mz NC lb) (hi : i < 5) (hw : w ≤ 7) : Mi l G yX11_cellNow cX11_cellNow 5 .int 1 20 1 8 [.ref (M 0), .int (nI i), .int (nI w)] [[(M 0, .inr (12, [.int th, .ref (M 1), .ref (M 2), .ref aw, .ref al, .ref (M 3), .ref (M 4), .ref (M 5), .ref (M 6), .ref y, .int (nI nb), .int (nI ny), .int du, .int mny, .int cl, .int (nI fd), .int ws]))], [(y, .inr (11, [.ref ce, .ref ha, .ref wa, .int (S.1 0), .int (S.1 1), .int (S.1 3), .int (S.1 2), .int (S.1 4), .int (S.1 5), .int (S.1 6)]))], [(ce, .inl (G.2.1 7, 5, .inr (.inr (.inr (.inr (refQ 5 Q ci))))))], [(ha, .inl (G.2.1 1, 5, .inl (hsF S.2.2.1)))], [(wa, .inl (G.2.1 0, 5, .inl S.2.2.2.2.2))], famW NC (fun ι => mcP G (Q ι) (mz ι))] (fun r u => r = qCell (S.2.2.1 i) (S.2.2.2.2.2 i) w ∧ u = [[(M 0, .inr (12, [.int th, .ref (M 1), .ref (M 2), .ref aw, .ref al, .ref (M 3), .ref (M 4), .ref (M 5), .ref (M 6), .ref y, .int (nI nb), .int (nI ny), .int du, .int mny, .int cl, .int (nI fd), .int ws]))], [(y, .inr (11, [.ref ce, .ref ha, .ref wa, .int (S.1 0), .int (S.1 1), .int (S.1 3), .int (S.1 2), .int (S.1 4), .int (S.1 5), .int (S.1 6)]))], [(ce, .inl (G.2.1 7, 5, .inr (.inr (.inr (.inr (refQ 5 Q ci))))))], [(ha, .inl (G.2.1 1, 5, .inl (hsF S.2.2.1)))], [(wa, .inl (G.2.1 0, 5, .inl S.2.2.2.2.2))], famW NC (fun ι => mcP G (Q ι) (mz ι))]) := by
  refine Mi_of (by decide) (Nat.le_of_ble_eq_true rfl) (fun pP eE sS mM aA bB tT cC AA QQ hC hr hnm hQ => ?_)
  rcases (show w = 0 ∨ w = 1 ∨ w = 2 ∨ w = 3 ∨ w = 4 ∨ w = 5 ∨ w = 6 ∨ w = 7 by omega) with rfl | rfl | rfl | rfl | rfl | rfl | rfl | rfl
  · refine V_iload_n hC dX11_cellNow_0 2 rfl ?_
    refine V_if_neF hC dX11_cellNow_1 (tgt := 14) (by decide) (by decide) ?_
    refine V_aload_n hC dX11_cellNow_4 0 rfl ?_
    refine V_get hC dX11_cellNow_5 inAX11 (mem_at 0 0 rfl rfl) rfl 9 (by decide) q1087 rfl (v := .ref y) rfl ?_
    refine V_get hC dX11_cellNow_8 inAX10 (mem_at 1 0 rfl rfl) rfl 2 (by decide) q1042 rfl (v := .ref wa) rfl ?_
    refine V_iload_n hC dX11_cellNow_11 1 rfl ?_
    refine V_iald hC dX11_cellNow_12 (mem_at 4 0 rfl rfl) (vp_in_nI (by omega) (by omega)) (x := i) (nI_clamp (by omega)) ?_
    exact V_iret hC hQ hr [0, 1, 2, 3, 4, 5] (u := [[(M 0, .inr (12, [.int th, .ref (M 1), .ref (M 2), .ref aw, .ref al, .ref (M 3), .ref (M 4), .ref (M 5), .ref (M 6), .ref y, .int (nI nb), .int (nI ny), .int du, .int mny, .int cl, .int (nI fd), .int ws]))], [(y, .inr (11, [.ref ce, .ref ha, .ref wa, .int (S.1 0), .int (S.1 1), .int (S.1 3), .int (S.1 2), .int (S.1 4), .int (S.1 5), .int (S.1 6)]))], [(ce, .inl (G.2.1 7, 5, .inr (.inr (.inr (.inr (refQ 5 Q ci))))))], [(ha, .inl (G.2.1 1, 5, .inl (hsF S.2.2.1)))], [(wa, .inl (G.2.1 0, 5, .inl S.2.2.2.2.2))], famW NC (fun ι => mcP G (Q ι) (mz ι))]) (by decide) rfl (by decide) (by decide) dX11_cellNow_13 (⟨by first | rfl | exact (if_pos hp).symm, rfl⟩)
  · refine V_iload_n hC dX11_cellNow_0 2 rfl ?_
    refine V_if_neT hC dX11_cellNow_1 (tgt := 14) (by decide) (by decide) ?_
    refine V_aload_n hC dX11_cellNow_14 0 rfl ?_
    refine V_get hC dX11_cellNow_15 inAX11 (mem_at 0 0 rfl rfl) rfl 9 (by decide) q1087 rfl (v := .ref y) rfl ?_
    refine V_get hC dX11_cellNow_18 inAX10 (mem_at 1 0 rfl rfl) rfl 1 (by decide) q1040 rfl (v := .ref ha) rfl ?_
    refine V_iload_n hC dX11_cellNow_21 1 rfl ?_
    refine V_zald hC dX11_cellNow_22 (mem_at 3 0 rfl rfl) (vp_in_nI (by omega) (by omega)) (x := i) (nI_clamp (by omega)) ?_
    refine V_if_ne hC dX11_cellNow_23 (tgt := 28) (by decide) (fun h1 => ?_) (fun h1 => ?_)
    · have hp : ¬ (S.2.2.1 i).1 0 = 0 := h1
      refine V_aload_n hC dX11_cellNow_28 0 rfl ?_
      refine V_get hC dX11_cellNow_29 inAX11 (mem_at 0 0 rfl rfl) rfl 9 (by decide) q1087 rfl (v := .ref y) rfl ?_
      refine V_get hC dX11_cellNow_32 inAX10 (mem_at 1 0 rfl rfl) rfl 0 (by decide) q1038 rfl (v := .ref ce) rfl ?_
      refine V_iload_n hC dX11_cellNow_35 1 rfl ?_
      refine V_aald hC dX11_cellNow_36 7 rfl (mem_at 2 0 rfl rfl) (vp_in_nI (by omega) (by omega)) (x := i) (nI_clamp (by omega)) (b := (Q (ci i)) 0) (refQ_at (hi)) ?_
      refine V_astore_n hC dX11_cellNow_37 (L' := [(3, .ref ((Q (ci i)) 0)), (0, .ref (M 0)), (1, .int (nI i)), (2, .int (nI 1))]) (by decide) rfl ?_
      refine V_bipush hC dX11_cellNow_38 (v := 8) (by decide) ?_
      refine V_newa_i hC q103 (N := 8) (by decide) (by decide) (by decide) (by decide) (by decide) dX11_cellNow_40 (fun q2 => ?_)
      refine V_dup hC dX11_cellNow_42 rfl ?_
      refine V_iconst hC dX11_cellNow_43 (v := 0) (by decide) ?_
      refine V_iconst hC dX11_cellNow_44 (v := 0) (by decide) ?_
      refine V_iast hC dX11_cellNow_45 6 0 rfl rfl (vin (by decide)) (z := 0) (by decide) (ps' := [[(M 0, .inr (12, [.int th, .ref (M 1), .ref (M 2), .ref aw, .ref al, .ref (M 3), .ref (M 4), .ref (M 5), .ref (M 6), .ref y, .int (nI nb), .int (nI ny), .int du, .int mny, .int cl, .int (nI fd), .int ws]))], [(y, .inr (11, [.ref ce, .ref ha, .ref wa, .int (S.1 0), .int (S.1 1), .int (S.1 3), .int (S.1 2), .int (S.1 4), .int (S.1 5), .int (S.1 6)]))], [(ce, .inl (G.2.1 7, 5, .inr (.inr (.inr (.inr (refQ 5 Q ci))))))], [(ha, .inl (G.2.1 1, 5, .inl (hsF S.2.2.1)))], [(wa, .inl (G.2.1 0, 5, .inl S.2.2.2.2.2))], famW NC (fun ι => mcP G (Q ι) (mz ι)), [(q2, .inl (G.2.1 0, 8, .inl (upd (fun _ => 0) 0 0)))]]) rfl ?_
      refine V_dup hC dX11_cellNow_46 rfl ?_
      refine V_iconst hC dX11_cellNow_47 (v := 1) (by decide) ?_
      refine V_iconst hC dX11_cellNow_48 (v := 1) (by decide) ?_
      refine V_iast hC dX11_cellNow_49 6 0 rfl rfl (vin (by decide)) (z := 1) (by decide) (ps' := [[(M 0, .inr (12, [.int th, .ref (M 1), .ref (M 2), .ref aw, .ref al, .ref (M 3), .ref (M 4), .ref (M 5), .ref (M 6), .ref y, .int (nI nb), .int (nI ny), .int du, .int mny, .int cl, .int (nI fd), .int ws]))], [(y, .inr (11, [.ref ce, .ref ha, .ref wa, .int (S.1 0), .int (S.1 1), .int (S.1 3), .int (S.1 2), .int (S.1 4), .int (S.1 5), .int (S.1 6)]))], [(ce, .inl (G.2.1 7, 5, .inr (.inr (.inr (.inr (refQ 5 Q ci))))))], [(ha, .inl (G.2.1 1, 5, .inl (hsF S.2.2.1)))], [(wa, .inl (G.2.1 0, 5, .inl S.2.2.2.2.2))], famW NC (fun ι => mcP G (Q ι) (mz ι)), [(q2, .inl (G.2.1 0, 8, .inl (upd (upd (fun _ => 0) 0 0) 1 1)))]]) rfl ?_
      refine V_dup hC dX11_cellNow_50 rfl ?_
      refine V_iconst hC dX11_cellNow_51 (v := 2) (by decide) ?_
      refine V_aload_n hC dX11_cellNow_52 0 rfl ?_
      refine V_get hC dX11_cellNow_53 inAX9 (mem_fam 5 0 rfl (ci i) (hK.2.2.1 i hi) rfl) rfl 2 (by decide) q992 rfl (v := .int (((mz (ci i)).1) 0)) rfl ?_
      refine V_iast hC dX11_cellNow_56 6 0 rfl rfl (vin (by decide)) (z := 2) (by decide) (ps' := [[(M 0, .inr (12, [.int th, .ref (M 1), .ref (M 2), .ref aw, .ref al, .ref (M 3), .ref (M 4), .ref (M 5), .ref (M 6), .ref y, .int (nI nb), .int (nI ny), .int du, .int mny, .int cl, .int (nI fd), .int ws]))], [(y, .inr (11, [.ref ce, .ref ha, .ref wa, .int (S.1 0), .int (S.1 1), .int (S.1 3), .int (S.1 2), .int (S.1 4), .int (S.1 5), .int (S.1 6)]))], [(ce, .inl (G.2.1 7, 5, .inr (.inr (.inr (.inr (refQ 5 Q ci))))))], [(ha, .inl (G.2.1 1, 5, .inl (hsF S.2.2.1)))], [(wa, .inl (G.2.1 0, 5, .inl S.2.2.2.2.2))], famW NC (fun ι => mcP G (Q ι) (mz ι)), [(q2, .inl (G.2.1 0, 8, .inl (upd (upd (upd (fun _ => 0) 0 0) 1 1) 2 (((mz (ci i)).1) 0))))]]) rfl ?_
      refine V_dup hC dX11_cellNow_57 rfl ?_
      refine V_iconst hC dX11_cellNow_58 (v := 3) (by decide) ?_
      refine V_aload_n hC dX11_cellNow_59 0 rfl ?_
      refine V_get hC dX11_cellNow_60 inAX9 (mem_fam 5 0 rfl (ci i) (hK.2.2.1 i hi) rfl) rfl 3 (by decide) q994 rfl (v := .int (((mz (ci i)).1) 1)) rfl ?_
      refine V_iast hC dX11_cellNow_63 6 0 rfl rfl (vin (by decide)) (z := 3) (by decide) (ps' := [[(M 0, .inr (12, [.int th, .ref (M 1), .ref (M 2), .ref aw, .ref al, .ref (M 3), .ref (M 4), .ref (M 5), .ref (M 6), .ref y, .int (nI nb), .int (nI ny), .int du, .int mny, .int cl, .int (nI fd), .int ws]))], [(y, .inr (11, [.ref ce, .ref ha, .ref wa, .int (S.1 0), .int (S.1 1), .int (S.1 3), .int (S.1 2), .int (S.1 4), .int (S.1 5), .int (S.1 6)]))], [(ce, .inl (G.2.1 7, 5, .inr (.inr (.inr (.inr (refQ 5 Q ci))))))], [(ha, .inl (G.2.1 1, 5, .inl (hsF S.2.2.1)))], [(wa, .inl (G.2.1 0, 5, .inl S.2.2.2.2.2))], famW NC (fun ι => mcP G (Q ι) (mz ι)), [(q2, .inl (G.2.1 0, 8, .inl (upd (upd (upd (upd (fun _ => 0) 0 0) 1 1) 2 (((mz (ci i)).1) 0)) 3 (((mz (ci i)).1) 1))))]]) rfl ?_
      refine V_dup hC dX11_cellNow_64 rfl ?_
      refine V_iconst hC dX11_cellNow_65 (v := 4) (by decide) ?_
      refine V_aload_n hC dX11_cellNow_66 0 rfl ?_
      refine V_get hC dX11_cellNow_67 inAX9 (mem_fam 5 0 rfl (ci i) (hK.2.2.1 i hi) rfl) rfl 4 (by decide) q996 rfl (v := .int (((mz (ci i)).1) 2)) rfl ?_
      refine V_iast hC dX11_cellNow_70 6 0 rfl rfl (vin (by decide)) (z := 4) (by decide) (ps' := [[(M 0, .inr (12, [.int th, .ref (M 1), .ref (M 2), .ref aw, .ref al, .ref (M 3), .ref (M 4), .ref (M 5), .ref (M 6), .ref y, .int (nI nb), .int (nI ny), .int du, .int mny, .int cl, .int (nI fd), .int ws]))], [(y, .inr (11, [.ref ce, .ref ha, .ref wa, .int (S.1 0), .int (S.1 1), .int (S.1 3), .int (S.1 2), .int (S.1 4), .int (S.1 5), .int (S.1 6)]))], [(ce, .inl (G.2.1 7, 5, .inr (.inr (.inr (.inr (refQ 5 Q ci))))))], [(ha, .inl (G.2.1 1, 5, .inl (hsF S.2.2.1)))], [(wa, .inl (G.2.1 0, 5, .inl S.2.2.2.2.2))], famW NC (fun ι => mcP G (Q ι) (mz ι)), [(q2, .inl (G.2.1 0, 8, .inl (upd (upd (upd (upd (upd (fun _ => 0) 0 0) 1 1) 2 (((mz (ci i)).1) 0)) 3 (((mz (ci i)).1) 1)) 4 (((mz (ci i)).1) 2))))]]) rfl ?_
      refine V_dup hC dX11_cellNow_71 rfl ?_
      refine V_iconst hC dX11_cellNow_72 (v := 5) (by decide) ?_
      refine V_aload_n hC dX11_cellNow_73 0 rfl ?_
      refine V_get hC dX11_cellNow_74 inAX9 (mem_fam 5 0 rfl (ci i) (hK.2.2.1 i hi) rfl) rfl 5 (by decide) q998 rfl (v := .int (((mz (ci i)).1) 3)) rfl ?_
      refine V_iast hC dX11_cellNow_77 6 0 rfl rfl (vin (by decide)) (z := 5) (by decide) (ps' := [[(M 0, .inr (12, [.int th, .ref (M 1), .ref (M 2), .ref aw, .ref al, .ref (M 3), .ref (M 4), .ref (M 5), .ref (M 6), .ref y, .int (nI nb), .int (nI ny), .int du, .int mny, .int cl, .int (nI fd), .int ws]))], [(y, .inr (11, [.ref ce, .ref ha, .ref wa, .int (S.1 0), .int (S.1 1), .int (S.1 3), .int (S.1 2), .int (S.1 4), .int (S.1 5), .int (S.1 6)]))], [(ce, .inl (G.2.1 7, 5, .inr (.inr (.inr (.inr (refQ 5 Q ci))))))], [(ha, .inl (G.2.1 1, 5, .inl (hsF S.2.2.1)))], [(wa, .inl (G.2.1 0, 5, .inl S.2.2.2.2.2))], famW NC (fun ι => mcP G (Q ι) (mz ι)), [(q2, .inl (G.2.1 0, 8, .inl (upd (upd (upd (upd (upd (upd (fun _ => 0) 0 0) 1 1) 2 (((mz (ci i)).1) 0)) 3 (((mz (ci i)).1) 1)) 4 (((mz (ci i)).1) 2)) 5 (((mz (ci i)).1) 3))))]]) rfl ?_
      refine V_dup hC dX11_cellNow_78 rfl ?_
      refine V_bipush hC dX11_cellNow_79 (v := 6) (by decide) ?_
      refine V_aload_n hC dX11_cellNow_81 0 rfl ?_
      refine V_get hC dX11_cellNow_82 inAX9 (mem_fam 5 0 rfl (ci i) (hK.2.2.1 i hi) rfl) rfl 6 (by decide) q1000 rfl (v := .int (((mz (ci i)).1) 4)) rfl ?_
      refine V_iast hC dX11_cellNow_85 6 0 rfl rfl (vin (by decide)) (z := 6) (by decide) (ps' := [[(M 0, .inr (12, [.int th, .ref (M 1), .ref (M 2), .ref aw, .ref al, .ref (M 3), .ref (M 4), .ref (M 5), .ref (M 6), .ref y, .int (nI nb), .int (nI ny), .int du, .int mny, .int cl, .int (nI fd), .int ws]))], [(y, .inr (11, [.ref ce, .ref ha, .ref wa, .int (S.1 0), .int (S.1 1), .int (S.1 3), .int (S.1 2), .int (S.1 4), .int (S.1 5), .int (S.1 6)]))], [(ce, .inl (G.2.1 7, 5, .inr (.inr (.inr (.inr (refQ 5 Q ci))))))], [(ha, .inl (G.2.1 1, 5, .inl (hsF S.2.2.1)))], [(wa, .inl (G.2.1 0, 5, .inl S.2.2.2.2.2))], famW NC (fun ι => mcP G (Q ι) (mz ι)), [(q2, .inl (G.2.1 0, 8, .inl (upd (upd (upd (upd (upd (upd (upd (fun _ => 0) 0 0) 1 1) 2 (((mz (ci i)).1) 0)) 3 (((mz (ci i)).1) 1)) 4 (((mz (ci i)).1) 2)) 5 (((mz (ci i)).1) 3)) 6 (((mz (ci i)).1) 4))))]]) rfl ?_
      refine V_dup hC dX11_cellNow_86 rfl ?_
      refine V_bipush hC dX11_cellNow_87 (v := 7) (by decide) ?_
      refine V_aload_n hC dX11_cellNow_89 0 rfl ?_
      refine V_sub [5, 0, 1, 2, 3, 4, 6] (by decide) (u := [famW NC (fun ι => mcP G (Q ι) (mz ι)), [(M 0, .inr (12, [.int th, .ref (M 1), .ref (M 2), .ref aw, .ref al, .ref (M 3), .ref (M 4), .ref (M 5), .ref (M 6), .ref y, .int (nI nb), .int (nI ny), .int du, .int mny, .int cl, .int (nI fd), .int ws]))], [(y, .inr (11, [.ref ce, .ref ha, .ref wa, .int (S.1 0), .int (S.1 1), .int (S.1 3), .int (S.1 2), .int (S.1 4), .int (S.1 5), .int (S.1 6)]))], [(ce, .inl (G.2.1 7, 5, .inr (.inr (.inr (.inr (refQ 5 Q ci))))))], [(ha, .inl (G.2.1 1, 5, .inl (hsF S.2.2.1)))], [(wa, .inl (G.2.1 0, 5, .inl S.2.2.2.2.2))], [(q2, .inl (G.2.1 0, 8, .inl (upd (upd (upd (upd (upd (upd (upd (fun _ => 0) 0 0) 1 1) 2 (((mz (ci i)).1) 0)) 3 (((mz (ci i)).1) 1)) 4 (((mz (ci i)).1) 2)) 5 (((mz (ci i)).1) 3)) 6 (((mz (ci i)).1) 4))))]]) rfl ?_
      refine V_open (i := ci i) (hK.2.2.1 i hi) ?_
      refine V_calli hC (V_runV hC (rest := [.int 7, .ref q2, .ref q2]) [] (c_X9_melt l G (Q (ci i)) (mz (ci i))) [0] rfl (by decide) q1424 q1346 q1347 q57 q1348 ⟨by decide, by decide, rfl⟩ ⟨by decide, by decide⟩ (ci := 10) rfl (mem_at 0 0 rfl rfl) rfl (Nat.le_of_ble_eq_true rfl) ⟨by decide, by decide⟩ dX11_cellNow_90) (is := [0]) rfl [1, 2, 3, 4, 5, 6, 7] (rs := [famX NC (ci i) (fun ι => mcP G (Q ι) (mz ι)), [(M 0, .inr (12, [.int th, .ref (M 1), .ref (M 2), .ref aw, .ref al, .ref (M 3), .ref (M 4), .ref (M 5), .ref (M 6), .ref y, .int (nI nb), .int (nI ny), .int du, .int mny, .int cl, .int (nI fd), .int ws]))], [(y, .inr (11, [.ref ce, .ref ha, .ref wa, .int (S.1 0), .int (S.1 1), .int (S.1 3), .int (S.1 2), .int (S.1 4), .int (S.1 5), .int (S.1 6)]))], [(ce, .inl (G.2.1 7, 5, .inr (.inr (.inr (.inr (refQ 5 Q ci))))))], [(ha, .inl (G.2.1 1, 5, .inl (hsF S.2.2.1)))], [(wa, .inl (G.2.1 0, 5, .inl S.2.2.2.2.2))], [(q2, .inl (G.2.1 0, 8, .inl (upd (upd (upd (upd (upd (upd (upd (fun _ => 0) 0 0) 1 1) 2 (((mz (ci i)).1) 0)) 3 (((mz (ci i)).1) 1)) 4 (((mz (ci i)).1) 2)) 5 (((mz (ci i)).1) 3)) 6 (((mz (ci i)).1) 4))))]]) rfl (by decide) (by decide) ?_
      rintro _ _ ⟨rfl, rfl⟩
      refine V_close (i := ci i) (g' := fun ι => mcP G (Q ι) (mz ι)) (hK.2.2.1 i hi) (rfl) (fun _ _ _ => rfl) ?_
      refine V_iast hC dX11_cellNow_93 6 0 rfl rfl (vin (by decide)) (z := 7) (by decide) (ps' := [famW NC (fun ι => mcP G (Q ι) (mz ι)), [(M 0, .inr (12, [.int th, .ref (M 1), .ref (M 2), .ref aw, .ref al, .ref (M 3), .ref (M 4), .ref (M 5), .ref (M 6), .ref y, .int (nI nb), .int (nI ny), .int du, .int mny, .int cl, .int (nI fd), .int ws]))], [(y, .inr (11, [.ref ce, .ref ha, .ref wa, .int (S.1 0), .int (S.1 1), .int (S.1 3), .int (S.1 2), .int (S.1 4), .int (S.1 5), .int (S.1 6)]))], [(ce, .inl (G.2.1 7, 5, .inr (.inr (.inr (.inr (refQ 5 Q ci))))))], [(ha, .inl (G.2.1 1, 5, .inl (hsF S.2.2.1)))], [(wa, .inl (G.2.1 0, 5, .inl S.2.2.2.2.2))], [(q2, .inl (G.2.1 0, 8, .inl (upd (upd (upd (upd (upd (upd (upd (upd (fun _ => 0) 0 0) 1 1) 2 (((mz (ci i)).1) 0)) 3 (((mz (ci i)).1) 1)) 4 (((mz (ci i)).1) 2)) 5 (((mz (ci i)).1) 3)) 6 (((mz (ci i)).1) 4)) 7 ((mz (ci i)).2.1 2 + (mz (ci i)).2.1 3))))]]) rfl ?_
      refine V_astore hC dX11_cellNow_94 (L' := [(4, .ref q2), (3, .ref ((Q (ci i)) 0)), (0, .ref (M 0)), (1, .int (nI i)), (2, .int (nI 1))]) (by decide) rfl ?_
      refine V_aload hC dX11_cellNow_96 0 rfl ?_
      refine V_iload_n hC dX11_cellNow_98 4 rfl ?_
      refine V_iald hC dX11_cellNow_99 (mem_at 6 0 rfl rfl) (vin (by decide)) (x := 1) (by decide) ?_
      exact V_iret hC hQ hr [1, 2, 3, 4, 5, 0] (u := [[(M 0, .inr (12, [.int th, .ref (M 1), .ref (M 2), .ref aw, .ref al, .ref (M 3), .ref (M 4), .ref (M 5), .ref (M 6), .ref y, .int (nI nb), .int (nI ny), .int du, .int mny, .int cl, .int (nI fd), .int ws]))], [(y, .inr (11, [.ref ce, .ref ha, .ref wa, .int (S.1 0), .int (S.1 1), .int (S.1 3), .int (S.1 2), .int (S.1 4), .int (S.1 5), .int (S.1 6)]))], [(ce, .inl (G.2.1 7, 5, .inr (.inr (.inr (.inr (refQ 5 Q ci))))))], [(ha, .inl (G.2.1 1, 5, .inl (hsF S.2.2.1)))], [(wa, .inl (G.2.1 0, 5, .inl S.2.2.2.2.2))], famW NC (fun ι => mcP G (Q ι) (mz ι))]) (by decide) rfl (by decide) (by decide) dX11_cellNow_100 (⟨qCell_eq (w := 1) (hK.2.2.2.1 i hi hp).2.2.2.1 hp (by decide) (by decide), rfl⟩)
    · have hp : (S.2.2.1 i).1 0 = 0 := h1
      refine V_iconst hC dX11_cellNow_26 (v := 0) (by decide) ?_
      exact V_iret hC hQ hr [0, 1, 2, 3, 4, 5] (u := [[(M 0, .inr (12, [.int th, .ref (M 1), .ref (M 2), .ref aw, .ref al, .ref (M 3), .ref (M 4), .ref (M 5), .ref (M 6), .ref y, .int (nI nb), .int (nI ny), .int du, .int mny, .int cl, .int (nI fd), .int ws]))], [(y, .inr (11, [.ref ce, .ref ha, .ref wa, .int (S.1 0), .int (S.1 1), .int (S.1 3), .int (S.1 2), .int (S.1 4), .int (S.1 5), .int (S.1 6)]))], [(ce, .inl (G.2.1 7, 5, .inr (.inr (.inr (.inr (refQ 5 Q ci))))))], [(ha, .inl (G.2.1 1, 5, .inl (hsF S.2.2.1)))], [(wa, .inl (G.2.1 0, 5, .inl S.2.2.2.2.2))], famW NC (fun ι => mcP G (Q ι) (mz ι))]) (by decide) rfl (by decide) (by decide) dX11_cellNow_27 (⟨by first | rfl | exact (if_pos hp).symm, rfl⟩)
  · refine V_iload_n hC dX11_cellNow_0 2 rfl ?_
    refine V_if_neT hC dX11_cellNow_1 (tgt := 14) (by decide) (by decide) ?_
    refine V_aload_n hC dX11_cellNow_14 0 rfl ?_
    refine V_get hC dX11_cellNow_15 inAX11 (mem_at 0 0 rfl rfl) rfl 9 (by decide) q1087 rfl (v := .ref y) rfl ?_
    refine V_get hC dX11_cellNow_18 inAX10 (mem_at 1 0 rfl rfl) rfl 1 (by decide) q1040 rfl (v := .ref ha) rfl ?_
    refine V_iload_n hC dX11_cellNow_21 1 rfl ?_
    refine V_zald hC dX11_cellNow_22 (mem_at 3 0 rfl rfl) (vp_in_nI (by omega) (by omega)) (x := i) (nI_clamp (by omega)) ?_
    refine V_if_ne hC dX11_cellNow_23 (tgt := 28) (by decide) (fun h3 => ?_) (fun h3 => ?_)
    · have hp : ¬ (S.2.2.1 i).1 0 = 0 := h3
      refine V_aload_n hC dX11_cellNow_28 0 rfl ?_
      refine V_get hC dX11_cellNow_29 inAX11 (mem_at 0 0 rfl rfl) rfl 9 (by decide) q1087 rfl (v := .ref y) rfl ?_
      refine V_get hC dX11_cellNow_32 inAX10 (mem_at 1 0 rfl rfl) rfl 0 (by decide) q1038 rfl (v := .ref ce) rfl ?_
      refine V_iload_n hC dX11_cellNow_35 1 rfl ?_
      refine V_aald hC dX11_cellNow_36 7 rfl (mem_at 2 0 rfl rfl) (vp_in_nI (by omega) (by omega)) (x := i) (nI_clamp (by omega)) (b := (Q (ci i)) 0) (refQ_at (hi)) ?_
      refine V_astore_n hC dX11_cellNow_37 (L' := [(3, .ref ((Q (ci i)) 0)), (0, .ref (M 0)), (1, .int (nI i)), (2, .int (nI 2))]) (by decide) rfl ?_
      refine V_bipush hC dX11_cellNow_38 (v := 8) (by decide) ?_
      refine V_newa_i hC q103 (N := 8) (by decide) (by decide) (by decide) (by decide) (by decide) dX11_cellNow_40 (fun q4 => ?_)
      refine V_dup hC dX11_cellNow_42 rfl ?_
      refine V_iconst hC dX11_cellNow_43 (v := 0) (by decide) ?_
      refine V_iconst hC dX11_cellNow_44 (v := 0) (by decide) ?_
      refine V_iast hC dX11_cellNow_45 6 0 rfl rfl (vin (by decide)) (z := 0) (by decide) (ps' := [[(M 0, .inr (12, [.int th, .ref (M 1), .ref (M 2), .ref aw, .ref al, .ref (M 3), .ref (M 4), .ref (M 5), .ref (M 6), .ref y, .int (nI nb), .int (nI ny), .int du, .int mny, .int cl, .int (nI fd), .int ws]))], [(y, .inr (11, [.ref ce, .ref ha, .ref wa, .int (S.1 0), .int (S.1 1), .int (S.1 3), .int (S.1 2), .int (S.1 4), .int (S.1 5), .int (S.1 6)]))], [(ce, .inl (G.2.1 7, 5, .inr (.inr (.inr (.inr (refQ 5 Q ci))))))], [(ha, .inl (G.2.1 1, 5, .inl (hsF S.2.2.1)))], [(wa, .inl (G.2.1 0, 5, .inl S.2.2.2.2.2))], famW NC (fun ι => mcP G (Q ι) (mz ι)), [(q4, .inl (G.2.1 0, 8, .inl (upd (fun _ => 0) 0 0)))]]) rfl ?_
      refine V_dup hC dX11_cellNow_46 rfl ?_
      refine V_iconst hC dX11_cellNow_47 (v := 1) (by decide) ?_
      refine V_iconst hC dX11_cellNow_48 (v := 1) (by decide) ?_
      refine V_iast hC dX11_cellNow_49 6 0 rfl rfl (vin (by decide)) (z := 1) (by decide) (ps' := [[(M 0, .inr (12, [.int th, .ref (M 1), .ref (M 2), .ref aw, .ref al, .ref (M 3), .ref (M 4), .ref (M 5), .ref (M 6), .ref y, .int (nI nb), .int (nI ny), .int du, .int mny, .int cl, .int (nI fd), .int ws]))], [(y, .inr (11, [.ref ce, .ref ha, .ref wa, .int (S.1 0), .int (S.1 1), .int (S.1 3), .int (S.1 2), .int (S.1 4), .int (S.1 5), .int (S.1 6)]))], [(ce, .inl (G.2.1 7, 5, .inr (.inr (.inr (.inr (refQ 5 Q ci))))))], [(ha, .inl (G.2.1 1, 5, .inl (hsF S.2.2.1)))], [(wa, .inl (G.2.1 0, 5, .inl S.2.2.2.2.2))], famW NC (fun ι => mcP G (Q ι) (mz ι)), [(q4, .inl (G.2.1 0, 8, .inl (upd (upd (fun _ => 0) 0 0) 1 1)))]]) rfl ?_
      refine V_dup hC dX11_cellNow_50 rfl ?_
      refine V_iconst hC dX11_cellNow_51 (v := 2) (by decide) ?_
      refine V_aload_n hC dX11_cellNow_52 0 rfl ?_
      refine V_get hC dX11_cellNow_53 inAX9 (mem_fam 5 0 rfl (ci i) (hK.2.2.1 i hi) rfl) rfl 2 (by decide) q992 rfl (v := .int (((mz (ci i)).1) 0)) rfl ?_
      refine V_iast hC dX11_cellNow_56 6 0 rfl rfl (vin (by decide)) (z := 2) (by decide) (ps' := [[(M 0, .inr (12, [.int th, .ref (M 1), .ref (M 2), .ref aw, .ref al, .ref (M 3), .ref (M 4), .ref (M 5), .ref (M 6), .ref y, .int (nI nb), .int (nI ny), .int du, .int mny, .int cl, .int (nI fd), .int ws]))], [(y, .inr (11, [.ref ce, .ref ha, .ref wa, .int (S.1 0), .int (S.1 1), .int (S.1 3), .int (S.1 2), .int (S.1 4), .int (S.1 5), .int (S.1 6)]))], [(ce, .inl (G.2.1 7, 5, .inr (.inr (.inr (.inr (refQ 5 Q ci))))))], [(ha, .inl (G.2.1 1, 5, .inl (hsF S.2.2.1)))], [(wa, .inl (G.2.1 0, 5, .inl S.2.2.2.2.2))], famW NC (fun ι => mcP G (Q ι) (mz ι)), [(q4, .inl (G.2.1 0, 8, .inl (upd (upd (upd (fun _ => 0) 0 0) 1 1) 2 (((mz (ci i)).1) 0))))]]) rfl ?_
      refine V_dup hC dX11_cellNow_57 rfl ?_
      refine V_iconst hC dX11_cellNow_58 (v := 3) (by decide) ?_
      refine V_aload_n hC dX11_cellNow_59 0 rfl ?_
      refine V_get hC dX11_cellNow_60 inAX9 (mem_fam 5 0 rfl (ci i) (hK.2.2.1 i hi) rfl) rfl 3 (by decide) q994 rfl (v := .int (((mz (ci i)).1) 1)) rfl ?_
      refine V_iast hC dX11_cellNow_63 6 0 rfl rfl (vin (by decide)) (z := 3) (by decide) (ps' := [[(M 0, .inr (12, [.int th, .ref (M 1), .ref (M 2), .ref aw, .ref al, .ref (M 3), .ref (M 4), .ref (M 5), .ref (M 6), .ref y, .int (nI nb), .int (nI ny), .int du, .int mny, .int cl, .int (nI fd), .int ws]))], [(y, .inr (11, [.ref ce, .ref ha, .ref wa, .int (S.1 0), .int (S.1 1), .int (S.1 3), .int (S.1 2), .int (S.1 4), .int (S.1 5), .int (S.1 6)]))], [(ce, .inl (G.2.1 7, 5, .inr (.inr (.inr (.inr (refQ 5 Q ci))))))], [(ha, .inl (G.2.1 1, 5, .inl (hsF S.2.2.1)))], [(wa, .inl (G.2.1 0, 5, .inl S.2.2.2.2.2))], famW NC (fun ι => mcP G (Q ι) (mz ι)), [(q4, .inl (G.2.1 0, 8, .inl (upd (upd (upd (upd (fun _ => 0) 0 0) 1 1) 2 (((mz (ci i)).1) 0)) 3 (((mz (ci i)).1) 1))))]]) rfl ?_
      refine V_dup hC dX11_cellNow_64 rfl ?_
      refine V_iconst hC dX11_cellNow_65 (v := 4) (by decide) ?_
      refine V_aload_n hC dX11_cellNow_66 0 rfl ?_
      refine V_get hC dX11_cellNow_67 inAX9 (mem_fam 5 0 rfl (ci i) (hK.2.2.1 i hi) rfl) rfl 4 (by decide) q996 rfl (v := .int (((mz (ci i)).1) 2)) rfl ?_
      refine V_iast hC dX11_cellNow_70 6 0 rfl rfl (vin (by decide)) (z := 4) (by decide) (ps' := [[(M 0, .inr (12, [.int th, .ref (M 1), .ref (M 2), .ref aw, .ref al, .ref (M 3), .ref (M 4), .ref (M 5), .ref (M 6), .ref y, .int (nI nb), .int (nI ny), .int du, .int mny, .int cl, .int (nI fd), .int ws]))], [(y, .inr (11, [.ref ce, .ref ha, .ref wa, .int (S.1 0), .int (S.1 1), .int (S.1 3), .int (S.1 2), .int (S.1 4), .int (S.1 5), .int (S.1 6)]))], [(ce, .inl (G.2.1 7, 5, .inr (.inr (.inr (.inr (refQ 5 Q ci))))))], [(ha, .inl (G.2.1 1, 5, .inl (hsF S.2.2.1)))], [(wa, .inl (G.2.1 0, 5, .inl S.2.2.2.2.2))], famW NC (fun ι => mcP G (Q ι) (mz ι)), [(q4, .inl (G.2.1 0, 8, .inl (upd (upd (upd (upd (upd (fun _ => 0) 0 0) 1 1) 2 (((mz (ci i)).1) 0)) 3 (((mz (ci i)).1) 1)) 4 (((mz (ci i)).1) 2))))]]) rfl ?_
      refine V_dup hC dX11_cellNow_71 rfl ?_
      refine V_iconst hC dX11_cellNow_72 (v := 5) (by decide) ?_
      refine V_aload_n hC dX11_cellNow_73 0 rfl ?_
      refine V_get hC dX11_cellNow_74 inAX9 (mem_fam 5 0 rfl (ci i) (hK.2.2.1 i hi) rfl) rfl 5 (by decide) q998 rfl (v := .int (((mz (ci i)).1) 3)) rfl ?_
      refine V_iast hC dX11_cellNow_77 6 0 rfl rfl (vin (by decide)) (z := 5) (by decide) (ps' := [[(M 0, .inr (12, [.int th, .ref (M 1), .ref (M 2), .ref aw, .ref al, .ref (M 3), .ref (M 4), .ref (M 5), .ref (M 6), .ref y, .int (nI nb), .int (nI ny), .int du, .int mny, .int cl, .int (nI fd), .int ws]))], [(y, .inr (11, [.ref ce, .ref ha, .ref wa, .int (S.1 0), .int (S.1 1), .int (S.1 3), .int (S.1 2), .int (S.1 4), .int (S.1 5), .int (S.1 6)]))], [(ce, .inl (G.2.1 7, 5, .inr (.inr (.inr (.inr (refQ 5 Q ci))))))], [(ha, .inl (G.2.1 1, 5, .inl (hsF S.2.2.1)))], [(wa, .inl (G.2.1 0, 5, .inl S.2.2.2.2.2))], famW NC (fun ι => mcP G (Q ι) (mz ι)), [(q4, .inl (G.2.1 0, 8, .inl (upd (upd (upd (upd (upd (upd (fun _ => 0) 0 0) 1 1) 2 (((mz (ci i)).1) 0)) 3 (((mz (ci i)).1) 1)) 4 (((mz (ci i)).1) 2)) 5 (((mz (ci i)).1) 3))))]]) rfl ?_
      refine V_dup hC dX11_cellNow_78 rfl ?_
      refine V_bipush hC dX11_cellNow_79 (v := 6) (by decide) ?_
      refine V_aload_n hC dX11_cellNow_81 0 rfl ?_
      refine V_get hC dX11_cellNow_82 inAX9 (mem_fam 5 0 rfl (ci i) (hK.2.2.1 i hi) rfl) rfl 6 (by decide) q1000 rfl (v := .int (((mz (ci i)).1) 4)) rfl ?_
      refine V_iast hC dX11_cellNow_85 6 0 rfl rfl (vin (by decide)) (z := 6) (by decide) (ps' := [[(M 0, .inr (12, [.int th, .ref (M 1), .ref (M 2), .ref aw, .ref al, .ref (M 3), .ref (M 4), .ref (M 5), .ref (M 6), .ref y, .int (nI nb), .int (nI ny), .int du, .int mny, .int cl, .int (nI fd), .int ws]))], [(y, .inr (11, [.ref ce, .ref ha, .ref wa, .int (S.1 0), .int (S.1 1), .int (S.1 3), .int (S.1 2), .int (S.1 4), .int (S.1 5), .int (S.1 6)]))], [(ce, .inl (G.2.1 7, 5, .inr (.inr (.inr (.inr (refQ 5 Q ci))))))], [(ha, .inl (G.2.1 1, 5, .inl (hsF S.2.2.1)))], [(wa, .inl (G.2.1 0, 5, .inl S.2.2.2.2.2))], famW NC (fun ι => mcP G (Q ι) (mz ι)), [(q4, .inl (G.2.1 0, 8, .inl (upd (upd (upd (upd (upd (upd (upd (fun _ => 0) 0 0) 1 1) 2 (((mz (ci i)).1) 0)) 3 (((mz (ci i)).1) 1)) 4 (((mz (ci i)).1) 2)) 5 (((mz (ci i)).1) 3)) 6 (((mz (ci i)).1) 4))))]]) rfl ?_
      refine V_dup hC dX11_cellNow_86 rfl ?_
      refine V_bipush hC dX11_cellNow_87 (v := 7) (by decide) ?_
      refine V_aload_n hC dX11_cellNow_89 0 rfl ?_
      refine V_sub [5, 0, 1, 2, 3, 4, 6] (by decide) (u := [famW NC (fun ι => mcP G (Q ι) (mz ι)), [(M 0, .inr (12, [.int th, .ref (M 1), .ref (M 2), .ref aw, .ref al, .ref (M 3), .ref (M 4), .ref (M 5), .ref (M 6), .ref y, .int (nI nb), .int (nI ny), .int du, .int mny, .int cl, .int (nI fd), .int ws]))], [(y, .inr (11, [.ref ce, .ref ha, .ref wa, .int (S.1 0), .int (S.1 1), .int (S.1 3), .int (S.1 2), .int (S.1 4), .int (S.1 5), .int (S.1 6)]))], [(ce, .inl (G.2.1 7, 5, .inr (.inr (.inr (.inr (refQ 5 Q ci))))))], [(ha, .inl (G.2.1 1, 5, .inl (hsF S.2.2.1)))], [(wa, .inl (G.2.1 0, 5, .inl S.2.2.2.2.2))], [(q4, .inl (G.2.1 0, 8, .inl (upd (upd (upd (upd (upd (upd (upd (fun _ => 0) 0 0) 1 1) 2 (((mz (ci i)).1) 0)) 3 (((mz (ci i)).1) 1)) 4 (((mz (ci i)).1) 2)) 5 (((mz (ci i)).1) 3)) 6 (((mz (ci i)).1) 4))))]]) rfl ?_
      refine V_open (i := ci i) (hK.2.2.1 i hi) ?_
      refine V_calli hC (V_runV hC (rest := [.int 7, .ref q4, .ref q4]) [] (c_X9_melt l G (Q (ci i)) (mz (ci i))) [0] rfl (by decide) q1424 q1346 q1347 q57 q1348 ⟨by decide, by decide, rfl⟩ ⟨by decide, by decide⟩ (ci := 10) rfl (mem_at 0 0 rfl rfl) rfl (Nat.le_of_ble_eq_true rfl) ⟨by decide, by decide⟩ dX11_cellNow_90) (is := [0]) rfl [1, 2, 3, 4, 5, 6, 7] (rs := [famX NC (ci i) (fun ι => mcP G (Q ι) (mz ι)), [(M 0, .inr (12, [.int th, .ref (M 1), .ref (M 2), .ref aw, .ref al, .ref (M 3), .ref (M 4), .ref (M 5), .ref (M 6), .ref y, .int (nI nb), .int (nI ny), .int du, .int mny, .int cl, .int (nI fd), .int ws]))], [(y, .inr (11, [.ref ce, .ref ha, .ref wa, .int (S.1 0), .int (S.1 1), .int (S.1 3), .int (S.1 2), .int (S.1 4), .int (S.1 5), .int (S.1 6)]))], [(ce, .inl (G.2.1 7, 5, .inr (.inr (.inr (.inr (refQ 5 Q ci))))))], [(ha, .inl (G.2.1 1, 5, .inl (hsF S.2.2.1)))], [(wa, .inl (G.2.1 0, 5, .inl S.2.2.2.2.2))], [(q4, .inl (G.2.1 0, 8, .inl (upd (upd (upd (upd (upd (upd (upd (fun _ => 0) 0 0) 1 1) 2 (((mz (ci i)).1) 0)) 3 (((mz (ci i)).1) 1)) 4 (((mz (ci i)).1) 2)) 5 (((mz (ci i)).1) 3)) 6 (((mz (ci i)).1) 4))))]]) rfl (by decide) (by decide) ?_
      rintro _ _ ⟨rfl, rfl⟩
      refine V_close (i := ci i) (g' := fun ι => mcP G (Q ι) (mz ι)) (hK.2.2.1 i hi) (rfl) (fun _ _ _ => rfl) ?_
      refine V_iast hC dX11_cellNow_93 6 0 rfl rfl (vin (by decide)) (z := 7) (by decide) (ps' := [famW NC (fun ι => mcP G (Q ι) (mz ι)), [(M 0, .inr (12, [.int th, .ref (M 1), .ref (M 2), .ref aw, .ref al, .ref (M 3), .ref (M 4), .ref (M 5), .ref (M 6), .ref y, .int (nI nb), .int (nI ny), .int du, .int mny, .int cl, .int (nI fd), .int ws]))], [(y, .inr (11, [.ref ce, .ref ha, .ref wa, .int (S.1 0), .int (S.1 1), .int (S.1 3), .int (S.1 2), .int (S.1 4), .int (S.1 5), .int (S.1 6)]))], [(ce, .inl (G.2.1 7, 5, .inr (.inr (.inr (.inr (refQ 5 Q ci))))))], [(ha, .inl (G.2.1 1, 5, .inl (hsF S.2.2.1)))], [(wa, .inl (G.2.1 0, 5, .inl S.2.2.2.2.2))], [(q4, .inl (G.2.1 0, 8, .inl (upd (upd (upd (upd (upd (upd (upd (upd (fun _ => 0) 0 0) 1 1) 2 (((mz (ci i)).1) 0)) 3 (((mz (ci i)).1) 1)) 4 (((mz (ci i)).1) 2)) 5 (((mz (ci i)).1) 3)) 6 (((mz (ci i)).1) 4)) 7 ((mz (ci i)).2.1 2 + (mz (ci i)).2.1 3))))]]) rfl ?_
      refine V_astore hC dX11_cellNow_94 (L' := [(4, .ref q4), (3, .ref ((Q (ci i)) 0)), (0, .ref (M 0)), (1, .int (nI i)), (2, .int (nI 2))]) (by decide) rfl ?_
      refine V_aload hC dX11_cellNow_96 0 rfl ?_
      refine V_iload_n hC dX11_cellNow_98 4 rfl ?_
      refine V_iald hC dX11_cellNow_99 (mem_at 6 0 rfl rfl) (vin (by decide)) (x := 2) (by decide) ?_
      exact V_iret hC hQ hr [1, 2, 3, 4, 5, 0] (u := [[(M 0, .inr (12, [.int th, .ref (M 1), .ref (M 2), .ref aw, .ref al, .ref (M 3), .ref (M 4), .ref (M 5), .ref (M 6), .ref y, .int (nI nb), .int (nI ny), .int du, .int mny, .int cl, .int (nI fd), .int ws]))], [(y, .inr (11, [.ref ce, .ref ha, .ref wa, .int (S.1 0), .int (S.1 1), .int (S.1 3), .int (S.1 2), .int (S.1 4), .int (S.1 5), .int (S.1 6)]))], [(ce, .inl (G.2.1 7, 5, .inr (.inr (.inr (.inr (refQ 5 Q ci))))))], [(ha, .inl (G.2.1 1, 5, .inl (hsF S.2.2.1)))], [(wa, .inl (G.2.1 0, 5, .inl S.2.2.2.2.2))], famW NC (fun ι => mcP G (Q ι) (mz ι))]) (by decide) rfl (by decide) (by decide) dX11_cellNow_100 (⟨qCell_eq (w := 2) (hK.2.2.2.1 i hi hp).2.2.2.1 hp (by decide) (by decide), rfl⟩)
    · have hp : (S.2.2.1 i).1 0 = 0 := h3
      refine V_iconst hC dX11_cellNow_26 (v := 0) (by decide) ?_
      exact V_iret hC hQ hr [0, 1, 2, 3, 4, 5] (u := [[(M 0, .inr (12, [.int th, .ref (M 1), .ref (M 2), .ref aw, .ref al, .ref (M 3), .ref (M 4), .ref (M 5), .ref (M 6), .ref y, .int (nI nb), .int (nI ny), .int du, .int mny, .int cl, .int (nI fd), .int ws]))], [(y, .inr (11, [.ref ce, .ref ha, .ref wa, .int (S.1 0), .int (S.1 1), .int (S.1 3), .int (S.1 2), .int (S.1 4), .int (S.1 5), .int (S.1 6)]))], [(ce, .inl (G.2.1 7, 5, .inr (.inr (.inr (.inr (refQ 5 Q ci))))))], [(ha, .inl (G.2.1 1, 5, .inl (hsF S.2.2.1)))], [(wa, .inl (G.2.1 0, 5, .inl S.2.2.2.2.2))], famW NC (fun ι => mcP G (Q ι) (mz ι))]) (by decide) rfl (by decide) (by decide) dX11_cellNow_27 (⟨by first | rfl | exact (if_pos hp).symm, rfl⟩)
  · refine V_iload_n hC dX11_cellNow_0 2 rfl ?_
    refine V_if_neT hC dX11_cellNow_1 (tgt := 14) (by decide) (by decide) ?_
    refine V_aload_n hC dX11_cellNow_14 0 rfl ?_
    refine V_get hC dX11_cellNow_15 inAX11 (mem_at 0 0 rfl rfl) rfl 9 (by decide) q1087 rfl (v := .ref y) rfl ?_
    refine V_get hC dX11_cellNow_18 inAX10 (mem_at 1 0 rfl rfl) rfl 1 (by decide) q1040 rfl (v := .ref ha) rfl ?_
    refine V_iload_n hC dX11_cellNow_21 1 rfl ?_
    refine V_zald hC dX11_cellNow_22 (mem_at 3 0 rfl rfl) (vp_in_nI (by omega) (by omega)) (x := i) (nI_clamp (by omega)) ?_
    refine V_if_ne hC dX11_cellNow_23 (tgt := 28) (by decide) (fun h5 => ?_) (fun h5 => ?_)
    · have hp : ¬ (S.2.2.1 i).1 0 = 0 := h5
      refine V_aload_n hC dX11_cellNow_28 0 rfl ?_
      refine V_get hC dX11_cellNow_29 inAX11 (mem_at 0 0 rfl rfl) rfl 9 (by decide) q1087 rfl (v := .ref y) rfl ?_
      refine V_get hC dX11_cellNow_32 inAX10 (mem_at 1 0 rfl rfl) rfl 0 (by decide) q1038 rfl (v := .ref ce) rfl ?_
      refine V_iload_n hC dX11_cellNow_35 1 rfl ?_
      refine V_aald hC dX11_cellNow_36 7 rfl (mem_at 2 0 rfl rfl) (vp_in_nI (by omega) (by omega)) (x := i) (nI_clamp (by omega)) (b := (Q (ci i)) 0) (refQ_at (hi)) ?_
      refine V_astore_n hC dX11_cellNow_37 (L' := [(3, .ref ((Q (ci i)) 0)), (0, .ref (M 0)), (1, .int (nI i)), (2, .int (nI 3))]) (by decide) rfl ?_
      refine V_bipush hC dX11_cellNow_38 (v := 8) (by decide) ?_
      refine V_newa_i hC q103 (N := 8) (by decide) (by decide) (by decide) (by decide) (by decide) dX11_cellNow_40 (fun q6 => ?_)
      refine V_dup hC dX11_cellNow_42 rfl ?_
      refine V_iconst hC dX11_cellNow_43 (v := 0) (by decide) ?_
      refine V_iconst hC dX11_cellNow_44 (v := 0) (by decide) ?_
      refine V_iast hC dX11_cellNow_45 6 0 rfl rfl (vin (by decide)) (z := 0) (by decide) (ps' := [[(M 0, .inr (12, [.int th, .ref (M 1), .ref (M 2), .ref aw, .ref al, .ref (M 3), .ref (M 4), .ref (M 5), .ref (M 6), .ref y, .int (nI nb), .int (nI ny), .int du, .int mny, .int cl, .int (nI fd), .int ws]))], [(y, .inr (11, [.ref ce, .ref ha, .ref wa, .int (S.1 0), .int (S.1 1), .int (S.1 3), .int (S.1 2), .int (S.1 4), .int (S.1 5), .int (S.1 6)]))], [(ce, .inl (G.2.1 7, 5, .inr (.inr (.inr (.inr (refQ 5 Q ci))))))], [(ha, .inl (G.2.1 1, 5, .inl (hsF S.2.2.1)))], [(wa, .inl (G.2.1 0, 5, .inl S.2.2.2.2.2))], famW NC (fun ι => mcP G (Q ι) (mz ι)), [(q6, .inl (G.2.1 0, 8, .inl (upd (fun _ => 0) 0 0)))]]) rfl ?_
      refine V_dup hC dX11_cellNow_46 rfl ?_
      refine V_iconst hC dX11_cellNow_47 (v := 1) (by decide) ?_
      refine V_iconst hC dX11_cellNow_48 (v := 1) (by decide) ?_
      refine V_iast hC dX11_cellNow_49 6 0 rfl rfl (vin (by decide)) (z := 1) (by decide) (ps' := [[(M 0, .inr (12, [.int th, .ref (M 1), .ref (M 2), .ref aw, .ref al, .ref (M 3), .ref (M 4), .ref (M 5), .ref (M 6), .ref y, .int (nI nb), .int (nI ny), .int du, .int mny, .int cl, .int (nI fd), .int ws]))], [(y, .inr (11, [.ref ce, .ref ha, .ref wa, .int (S.1 0), .int (S.1 1), .int (S.1 3), .int (S.1 2), .int (S.1 4), .int (S.1 5), .int (S.1 6)]))], [(ce, .inl (G.2.1 7, 5, .inr (.inr (.inr (.inr (refQ 5 Q ci))))))], [(ha, .inl (G.2.1 1, 5, .inl (hsF S.2.2.1)))], [(wa, .inl (G.2.1 0, 5, .inl S.2.2.2.2.2))], famW NC (fun ι => mcP G (Q ι) (mz ι)), [(q6, .inl (G.2.1 0, 8, .inl (upd (upd (fun _ => 0) 0 0) 1 1)))]]) rfl ?_
      refine V_dup hC dX11_cellNow_50 rfl ?_
      refine V_iconst hC dX11_cellNow_51 (v := 2) (by decide) ?_
      refine V_aload_n hC dX11_cellNow_52 0 rfl ?_
      refine V_get hC dX11_cellNow_53 inAX9 (mem_fam 5 0 rfl (ci i) (hK.2.2.1 i hi) rfl) rfl 2 (by decide) q992 rfl (v := .int (((mz (ci i)).1) 0)) rfl ?_
      refine V_iast hC dX11_cellNow_56 6 0 rfl rfl (vin (by decide)) (z := 2) (by decide) (ps' := [[(M 0, .inr (12, [.int th, .ref (M 1), .ref (M 2), .ref aw, .ref al, .ref (M 3), .ref (M 4), .ref (M 5), .ref (M 6), .ref y, .int (nI nb), .int (nI ny), .int du, .int mny, .int cl, .int (nI fd), .int ws]))], [(y, .inr (11, [.ref ce, .ref ha, .ref wa, .int (S.1 0), .int (S.1 1), .int (S.1 3), .int (S.1 2), .int (S.1 4), .int (S.1 5), .int (S.1 6)]))], [(ce, .inl (G.2.1 7, 5, .inr (.inr (.inr (.inr (refQ 5 Q ci))))))], [(ha, .inl (G.2.1 1, 5, .inl (hsF S.2.2.1)))], [(wa, .inl (G.2.1 0, 5, .inl S.2.2.2.2.2))], famW NC (fun ι => mcP G (Q ι) (mz ι)), [(q6, .inl (G.2.1 0, 8, .inl (upd (upd (upd (fun _ => 0) 0 0) 1 1) 2 (((mz (ci i)).1) 0))))]]) rfl ?_
      refine V_dup hC dX11_cellNow_57 rfl ?_
      refine V_iconst hC dX11_cellNow_58 (v := 3) (by decide) ?_
      refine V_aload_n hC dX11_cellNow_59 0 rfl ?_
      refine V_get hC dX11_cellNow_60 inAX9 (mem_fam 5 0 rfl (ci i) (hK.2.2.1 i hi) rfl) rfl 3 (by decide) q994 rfl (v := .int (((mz (ci i)).1) 1)) rfl ?_
      refine V_iast hC dX11_cellNow_63 6 0 rfl rfl (vin (by decide)) (z := 3) (by decide) (ps' := [[(M 0, .inr (12, [.int th, .ref (M 1), .ref (M 2), .ref aw, .ref al, .ref (M 3), .ref (M 4), .ref (M 5), .ref (M 6), .ref y, .int (nI nb), .int (nI ny), .int du, .int mny, .int cl, .int (nI fd), .int ws]))], [(y, .inr (11, [.ref ce, .ref ha, .ref wa, .int (S.1 0), .int (S.1 1), .int (S.1 3), .int (S.1 2), .int (S.1 4), .int (S.1 5), .int (S.1 6)]))], [(ce, .inl (G.2.1 7, 5, .inr (.inr (.inr (.inr (refQ 5 Q ci))))))], [(ha, .inl (G.2.1 1, 5, .inl (hsF S.2.2.1)))], [(wa, .inl (G.2.1 0, 5, .inl S.2.2.2.2.2))], famW NC (fun ι => mcP G (Q ι) (mz ι)), [(q6, .inl (G.2.1 0, 8, .inl (upd (upd (upd (upd (fun _ => 0) 0 0) 1 1) 2 (((mz (ci i)).1) 0)) 3 (((mz (ci i)).1) 1))))]]) rfl ?_
      refine V_dup hC dX11_cellNow_64 rfl ?_
      refine V_iconst hC dX11_cellNow_65 (v := 4) (by decide) ?_
      refine V_aload_n hC dX11_cellNow_66 0 rfl ?_
      refine V_get hC dX11_cellNow_67 inAX9 (mem_fam 5 0 rfl (ci i) (hK.2.2.1 i hi) rfl) rfl 4 (by decide) q996 rfl (v := .int (((mz (ci i)).1) 2)) rfl ?_
      refine V_iast hC dX11_cellNow_70 6 0 rfl rfl (vin (by decide)) (z := 4) (by decide) (ps' := [[(M 0, .inr (12, [.int th, .ref (M 1), .ref (M 2), .ref aw, .ref al, .ref (M 3), .ref (M 4), .ref (M 5), .ref (M 6), .ref y, .int (nI nb), .int (nI ny), .int du, .int mny, .int cl, .int (nI fd), .int ws]))], [(y, .inr (11, [.ref ce, .ref ha, .ref wa, .int (S.1 0), .int (S.1 1), .int (S.1 3), .int (S.1 2), .int (S.1 4), .int (S.1 5), .int (S.1 6)]))], [(ce, .inl (G.2.1 7, 5, .inr (.inr (.inr (.inr (refQ 5 Q ci))))))], [(ha, .inl (G.2.1 1, 5, .inl (hsF S.2.2.1)))], [(wa, .inl (G.2.1 0, 5, .inl S.2.2.2.2.2))], famW NC (fun ι => mcP G (Q ι) (mz ι)), [(q6, .inl (G.2.1 0, 8, .inl (upd (upd (upd (upd (upd (fun _ => 0) 0 0) 1 1) 2 (((mz (ci i)).1) 0)) 3 (((mz (ci i)).1) 1)) 4 (((mz (ci i)).1) 2))))]]) rfl ?_
      refine V_dup hC dX11_cellNow_71 rfl ?_
      refine V_iconst hC dX11_cellNow_72 (v := 5) (by decide) ?_
      refine V_aload_n hC dX11_cellNow_73 0 rfl ?_
      refine V_get hC dX11_cellNow_74 inAX9 (mem_fam 5 0 rfl (ci i) (hK.2.2.1 i hi) rfl) rfl 5 (by decide) q998 rfl (v := .int (((mz (ci i)).1) 3)) rfl ?_
      refine V_iast hC dX11_cellNow_77 6 0 rfl rfl (vin (by decide)) (z := 5) (by decide) (ps' := [[(M 0, .inr (12, [.int th, .ref (M 1), .ref (M 2), .ref aw, .ref al, .ref (M 3), .ref (M 4), .ref (M 5), .ref (M 6), .ref y, .int (nI nb), .int (nI ny), .int du, .int mny, .int cl, .int (nI fd), .int ws]))], [(y, .inr (11, [.ref ce, .ref ha, .ref wa, .int (S.1 0), .int (S.1 1), .int (S.1 3), .int (S.1 2), .int (S.1 4), .int (S.1 5), .int (S.1 6)]))], [(ce, .inl (G.2.1 7, 5, .inr (.inr (.inr (.inr (refQ 5 Q ci))))))], [(ha, .inl (G.2.1 1, 5, .inl (hsF S.2.2.1)))], [(wa, .inl (G.2.1 0, 5, .inl S.2.2.2.2.2))], famW NC (fun ι => mcP G (Q ι) (mz ι)), [(q6, .inl (G.2.1 0, 8, .inl (upd (upd (upd (upd (upd (upd (fun _ => 0) 0 0) 1 1) 2 (((mz (ci i)).1) 0)) 3 (((mz (ci i)).1) 1)) 4 (((mz (ci i)).1) 2)) 5 (((mz (ci i)).1) 3))))]]) rfl ?_
      refine V_dup hC dX11_cellNow_78 rfl ?_
      refine V_bipush hC dX11_cellNow_79 (v := 6) (by decide) ?_
      refine V_aload_n hC dX11_cellNow_81 0 rfl ?_
      refine V_get hC dX11_cellNow_82 inAX9 (mem_fam 5 0 rfl (ci i) (hK.2.2.1 i hi) rfl) rfl 6 (by decide) q1000 rfl (v := .int (((mz (ci i)).1) 4)) rfl ?_
      refine V_iast hC dX11_cellNow_85 6 0 rfl rfl (vin (by decide)) (z := 6) (by decide) (ps' := [[(M 0, .inr (12, [.int th, .ref (M 1), .ref (M 2), .ref aw, .ref al, .ref (M 3), .ref (M 4), .ref (M 5), .ref (M 6), .ref y, .int (nI nb), .int (nI ny), .int du, .int mny, .int cl, .int (nI fd), .int ws]))], [(y, .inr (11, [.ref ce, .ref ha, .ref wa, .int (S.1 0), .int (S.1 1), .int (S.1 3), .int (S.1 2), .int (S.1 4), .int (S.1 5), .int (S.1 6)]))], [(ce, .inl (G.2.1 7, 5, .inr (.inr (.inr (.inr (refQ 5 Q ci))))))], [(ha, .inl (G.2.1 1, 5, .inl (hsF S.2.2.1)))], [(wa, .inl (G.2.1 0, 5, .inl S.2.2.2.2.2))], famW NC (fun ι => mcP G (Q ι) (mz ι)), [(q6, .inl (G.2.1 0, 8, .inl (upd (upd (upd (upd (upd (upd (upd (fun _ => 0) 0 0) 1 1) 2 (((mz (ci i)).1) 0)) 3 (((mz (ci i)).1) 1)) 4 (((mz (ci i)).1) 2)) 5 (((mz (ci i)).1) 3)) 6 (((mz (ci i)).1) 4))))]]) rfl ?_
      refine V_dup hC dX11_cellNow_86 rfl ?_
      refine V_bipush hC dX11_cellNow_87 (v := 7) (by decide) ?_
      refine V_aload_n hC dX11_cellNow_89 0 rfl ?_
      refine V_sub [5, 0, 1, 2, 3, 4, 6] (by decide) (u := [famW NC (fun ι => mcP G (Q ι) (mz ι)), [(M 0, .inr (12, [.int th, .ref (M 1), .ref (M 2), .ref aw, .ref al, .ref (M 3), .ref (M 4), .ref (M 5), .ref (M 6), .ref y, .int (nI nb), .int (nI ny), .int du, .int mny, .int cl, .int (nI fd), .int ws]))], [(y, .inr (11, [.ref ce, .ref ha, .ref wa, .int (S.1 0), .int (S.1 1), .int (S.1 3), .int (S.1 2), .int (S.1 4), .int (S.1 5), .int (S.1 6)]))], [(ce, .inl (G.2.1 7, 5, .inr (.inr (.inr (.inr (refQ 5 Q ci))))))], [(ha, .inl (G.2.1 1, 5, .inl (hsF S.2.2.1)))], [(wa, .inl (G.2.1 0, 5, .inl S.2.2.2.2.2))], [(q6, .inl (G.2.1 0, 8, .inl (upd (upd (upd (upd (upd (upd (upd (fun _ => 0) 0 0) 1 1) 2 (((mz (ci i)).1) 0)) 3 (((mz (ci i)).1) 1)) 4 (((mz (ci i)).1) 2)) 5 (((mz (ci i)).1) 3)) 6 (((mz (ci i)).1) 4))))]]) rfl ?_
      refine V_open (i := ci i) (hK.2.2.1 i hi) ?_
      refine V_calli hC (V_runV hC (rest := [.int 7, .ref q6, .ref q6]) [] (c_X9_melt l G (Q (ci i)) (mz (ci i))) [0] rfl (by decide) q1424 q1346 q1347 q57 q1348 ⟨by decide, by decide, rfl⟩ ⟨by decide, by decide⟩ (ci := 10) rfl (mem_at 0 0 rfl rfl) rfl (Nat.le_of_ble_eq_true rfl) ⟨by decide, by decide⟩ dX11_cellNow_90) (is := [0]) rfl [1, 2, 3, 4, 5, 6, 7] (rs := [famX NC (ci i) (fun ι => mcP G (Q ι) (mz ι)), [(M 0, .inr (12, [.int th, .ref (M 1), .ref (M 2), .ref aw, .ref al, .ref (M 3), .ref (M 4), .ref (M 5), .ref (M 6), .ref y, .int (nI nb), .int (nI ny), .int du, .int mny, .int cl, .int (nI fd), .int ws]))], [(y, .inr (11, [.ref ce, .ref ha, .ref wa, .int (S.1 0), .int (S.1 1), .int (S.1 3), .int (S.1 2), .int (S.1 4), .int (S.1 5), .int (S.1 6)]))], [(ce, .inl (G.2.1 7, 5, .inr (.inr (.inr (.inr (refQ 5 Q ci))))))], [(ha, .inl (G.2.1 1, 5, .inl (hsF S.2.2.1)))], [(wa, .inl (G.2.1 0, 5, .inl S.2.2.2.2.2))], [(q6, .inl (G.2.1 0, 8, .inl (upd (upd (upd (upd (upd (upd (upd (fun _ => 0) 0 0) 1 1) 2 (((mz (ci i)).1) 0)) 3 (((mz (ci i)).1) 1)) 4 (((mz (ci i)).1) 2)) 5 (((mz (ci i)).1) 3)) 6 (((mz (ci i)).1) 4))))]]) rfl (by decide) (by decide) ?_
      rintro _ _ ⟨rfl, rfl⟩
      refine V_close (i := ci i) (g' := fun ι => mcP G (Q ι) (mz ι)) (hK.2.2.1 i hi) (rfl) (fun _ _ _ => rfl) ?_
      refine V_iast hC dX11_cellNow_93 6 0 rfl rfl (vin (by decide)) (z := 7) (by decide) (ps' := [famW NC (fun ι => mcP G (Q ι) (mz ι)), [(M 0, .inr (12, [.int th, .ref (M 1), .ref (M 2), .ref aw, .ref al, .ref (M 3), .ref (M 4), .ref (M 5), .ref (M 6), .ref y, .int (nI nb), .int (nI ny), .int du, .int mny, .int cl, .int (nI fd), .int ws]))], [(y, .inr (11, [.ref ce, .ref ha, .ref wa, .int (S.1 0), .int (S.1 1), .int (S.1 3), .int (S.1 2), .int (S.1 4), .int (S.1 5), .int (S.1 6)]))], [(ce, .inl (G.2.1 7, 5, .inr (.inr (.inr (.inr (refQ 5 Q ci))))))], [(ha, .inl (G.2.1 1, 5, .inl (hsF S.2.2.1)))], [(wa, .inl (G.2.1 0, 5, .inl S.2.2.2.2.2))], [(q6, .inl (G.2.1 0, 8, .inl (upd (upd (upd (upd (upd (upd (upd (upd (fun _ => 0) 0 0) 1 1) 2 (((mz (ci i)).1) 0)) 3 (((mz (ci i)).1) 1)) 4 (((mz (ci i)).1) 2)) 5 (((mz (ci i)).1) 3)) 6 (((mz (ci i)).1) 4)) 7 ((mz (ci i)).2.1 2 + (mz (ci i)).2.1 3))))]]) rfl ?_
      refine V_astore hC dX11_cellNow_94 (L' := [(4, .ref q6), (3, .ref ((Q (ci i)) 0)), (0, .ref (M 0)), (1, .int (nI i)), (2, .int (nI 3))]) (by decide) rfl ?_
      refine V_aload hC dX11_cellNow_96 0 rfl ?_
      refine V_iload_n hC dX11_cellNow_98 4 rfl ?_
      refine V_iald hC dX11_cellNow_99 (mem_at 6 0 rfl rfl) (vin (by decide)) (x := 3) (by decide) ?_
      exact V_iret hC hQ hr [1, 2, 3, 4, 5, 0] (u := [[(M 0, .inr (12, [.int th, .ref (M 1), .ref (M 2), .ref aw, .ref al, .ref (M 3), .ref (M 4), .ref (M 5), .ref (M 6), .ref y, .int (nI nb), .int (nI ny), .int du, .int mny, .int cl, .int (nI fd), .int ws]))], [(y, .inr (11, [.ref ce, .ref ha, .ref wa, .int (S.1 0), .int (S.1 1), .int (S.1 3), .int (S.1 2), .int (S.1 4), .int (S.1 5), .int (S.1 6)]))], [(ce, .inl (G.2.1 7, 5, .inr (.inr (.inr (.inr (refQ 5 Q ci))))))], [(ha, .inl (G.2.1 1, 5, .inl (hsF S.2.2.1)))], [(wa, .inl (G.2.1 0, 5, .inl S.2.2.2.2.2))], famW NC (fun ι => mcP G (Q ι) (mz ι))]) (by decide) rfl (by decide) (by decide) dX11_cellNow_100 (⟨qCell_eq (w := 3) (hK.2.2.2.1 i hi hp).2.2.2.1 hp (by decide) (by decide), rfl⟩)
    · have hp : (S.2.2.1 i).1 0 = 0 := h5
      refine V_iconst hC dX11_cellNow_26 (v := 0) (by decide) ?_
      exact V_iret hC hQ hr [0, 1, 2, 3, 4, 5] (u := [[(M 0, .inr (12, [.int th, .ref (M 1), .ref (M 2), .ref aw, .ref al, .ref (M 3), .ref (M 4), .ref (M 5), .ref (M 6), .ref y, .int (nI nb), .int (nI ny), .int du, .int mny, .int cl, .int (nI fd), .int ws]))], [(y, .inr (11, [.ref ce, .ref ha, .ref wa, .int (S.1 0), .int (S.1 1), .int (S.1 3), .int (S.1 2), .int (S.1 4), .int (S.1 5), .int (S.1 6)]))], [(ce, .inl (G.2.1 7, 5, .inr (.inr (.inr (.inr (refQ 5 Q ci))))))], [(ha, .inl (G.2.1 1, 5, .inl (hsF S.2.2.1)))], [(wa, .inl (G.2.1 0, 5, .inl S.2.2.2.2.2))], famW NC (fun ι => mcP G (Q ι) (mz ι))]) (by decide) rfl (by decide) (by decide) dX11_cellNow_27 (⟨by first | rfl | exact (if_pos hp).symm, rfl⟩)
  · refine V_iload_n hC dX11_cellNow_0 2 rfl ?_
    refine V_if_neT hC dX11_cellNow_1 (tgt := 14) (by decide) (by decide) ?_
    refine V_aload_n hC dX11_cellNow_14 0 rfl ?_
    refine V_get hC dX11_cellNow_15 inAX11 (mem_at 0 0 rfl rfl) rfl 9 (by decide) q1087 rfl (v := .ref y) rfl ?_
    refine V_get hC dX11_cellNow_18 inAX10 (mem_at 1 0 rfl rfl) rfl 1 (by decide) q1040 rfl (v := .ref ha) rfl ?_
    refine V_iload_n hC dX11_cellNow_21 1 rfl ?_
    refine V_zald hC dX11_cellNow_22 (mem_at 3 0 rfl rfl) (vp_in_nI (by omega) (by omega)) (x := i) (nI_clamp (by omega)) ?_
    refine V_if_ne hC dX11_cellNow_23 (tgt := 28) (by decide) (fun h7 => ?_) (fun h7 => ?_)
    · have hp : ¬ (S.2.2.1 i).1 0 = 0 := h7
      refine V_aload_n hC dX11_cellNow_28 0 rfl ?_
      refine V_get hC dX11_cellNow_29 inAX11 (mem_at 0 0 rfl rfl) rfl 9 (by decide) q1087 rfl (v := .ref y) rfl ?_
      refine V_get hC dX11_cellNow_32 inAX10 (mem_at 1 0 rfl rfl) rfl 0 (by decide) q1038 rfl (v := .ref ce) rfl ?_
      refine V_iload_n hC dX11_cellNow_35 1 rfl ?_
      refine V_aald hC dX11_cellNow_36 7 rfl (mem_at 2 0 rfl rfl) (vp_in_nI (by omega) (by omega)) (x := i) (nI_clamp (by omega)) (b := (Q (ci i)) 0) (refQ_at (hi)) ?_
      refine V_astore_n hC dX11_cellNow_37 (L' := [(3, .ref ((Q (ci i)) 0)), (0, .ref (M 0)), (1, .int (nI i)), (2, .int (nI 4))]) (by decide) rfl ?_
      refine V_bipush hC dX11_cellNow_38 (v := 8) (by decide) ?_
      refine V_newa_i hC q103 (N := 8) (by decide) (by decide) (by decide) (by decide) (by decide) dX11_cellNow_40 (fun q8 => ?_)
      refine V_dup hC dX11_cellNow_42 rfl ?_
      refine V_iconst hC dX11_cellNow_43 (v := 0) (by decide) ?_
      refine V_iconst hC dX11_cellNow_44 (v := 0) (by decide) ?_
      refine V_iast hC dX11_cellNow_45 6 0 rfl rfl (vin (by decide)) (z := 0) (by decide) (ps' := [[(M 0, .inr (12, [.int th, .ref (M 1), .ref (M 2), .ref aw, .ref al, .ref (M 3), .ref (M 4), .ref (M 5), .ref (M 6), .ref y, .int (nI nb), .int (nI ny), .int du, .int mny, .int cl, .int (nI fd), .int ws]))], [(y, .inr (11, [.ref ce, .ref ha, .ref wa, .int (S.1 0), .int (S.1 1), .int (S.1 3), .int (S.1 2), .int (S.1 4), .int (S.1 5), .int (S.1 6)]))], [(ce, .inl (G.2.1 7, 5, .inr (.inr (.inr (.inr (refQ 5 Q ci))))))], [(ha, .inl (G.2.1 1, 5, .inl (hsF S.2.2.1)))], [(wa, .inl (G.2.1 0, 5, .inl S.2.2.2.2.2))], famW NC (fun ι => mcP G (Q ι) (mz ι)), [(q8, .inl (G.2.1 0, 8, .inl (upd (fun _ => 0) 0 0)))]]) rfl ?_
      refine V_dup hC dX11_cellNow_46 rfl ?_
      refine V_iconst hC dX11_cellNow_47 (v := 1) (by decide) ?_
      refine V_iconst hC dX11_cellNow_48 (v := 1) (by decide) ?_
      refine V_iast hC dX11_cellNow_49 6 0 rfl rfl (vin (by decide)) (z := 1) (by decide) (ps' := [[(M 0, .inr (12, [.int th, .ref (M 1), .ref (M 2), .ref aw, .ref al, .ref (M 3), .ref (M 4), .ref (M 5), .ref (M 6), .ref y, .int (nI nb), .int (nI ny), .int du, .int mny, .int cl, .int (nI fd), .int ws]))], [(y, .inr (11, [.ref ce, .ref ha, .ref wa, .int (S.1 0), .int (S.1 1), .int (S.1 3), .int (S.1 2), .int (S.1 4), .int (S.1 5), .int (S.1 6)]))], [(ce, .inl (G.2.1 7, 5, .inr (.inr (.inr (.inr (refQ 5 Q ci))))))], [(ha, .inl (G.2.1 1, 5, .inl (hsF S.2.2.1)))], [(wa, .inl (G.2.1 0, 5, .inl S.2.2.2.2.2))], famW NC (fun ι => mcP G (Q ι) (mz ι)), [(q8, .inl (G.2.1 0, 8, .inl (upd (upd (fun _ => 0) 0 0) 1 1)))]]) rfl ?_
      refine V_dup hC dX11_cellNow_50 rfl ?_
      refine V_iconst hC dX11_cellNow_51 (v := 2) (by decide) ?_
      refine V_aload_n hC dX11_cellNow_52 0 rfl ?_
      refine V_get hC dX11_cellNow_53 inAX9 (mem_fam 5 0 rfl (ci i) (hK.2.2.1 i hi) rfl) rfl 2 (by decide) q992 rfl (v := .int (((mz (ci i)).1) 0)) rfl ?_
      refine V_iast hC dX11_cellNow_56 6 0 rfl rfl (vin (by decide)) (z := 2) (by decide) (ps' := [[(M 0, .inr (12, [.int th, .ref (M 1), .ref (M 2), .ref aw, .ref al, .ref (M 3), .ref (M 4), .ref (M 5), .ref (M 6), .ref y, .int (nI nb), .int (nI ny), .int du, .int mny, .int cl, .int (nI fd), .int ws]))], [(y, .inr (11, [.ref ce, .ref ha, .ref wa, .int (S.1 0), .int (S.1 1), .int (S.1 3), .int (S.1 2), .int (S.1 4), .int (S.1 5), .int (S.1 6)]))], [(ce, .inl (G.2.1 7, 5, .inr (.inr (.inr (.inr (refQ 5 Q ci))))))], [(ha, .inl (G.2.1 1, 5, .inl (hsF S.2.2.1)))], [(wa, .inl (G.2.1 0, 5, .inl S.2.2.2.2.2))], famW NC (fun ι => mcP G (Q ι) (mz ι)), [(q8, .inl (G.2.1 0, 8, .inl (upd (upd (upd (fun _ => 0) 0 0) 1 1) 2 (((mz (ci i)).1) 0))))]]) rfl ?_
      refine V_dup hC dX11_cellNow_57 rfl ?_
      refine V_iconst hC dX11_cellNow_58 (v := 3) (by decide) ?_
      refine V_aload_n hC dX11_cellNow_59 0 rfl ?_
      refine V_get hC dX11_cellNow_60 inAX9 (mem_fam 5 0 rfl (ci i) (hK.2.2.1 i hi) rfl) rfl 3 (by decide) q994 rfl (v := .int (((mz (ci i)).1) 1)) rfl ?_
      refine V_iast hC dX11_cellNow_63 6 0 rfl rfl (vin (by decide)) (z := 3) (by decide) (ps' := [[(M 0, .inr (12, [.int th, .ref (M 1), .ref (M 2), .ref aw, .ref al, .ref (M 3), .ref (M 4), .ref (M 5), .ref (M 6), .ref y, .int (nI nb), .int (nI ny), .int du, .int mny, .int cl, .int (nI fd), .int ws]))], [(y, .inr (11, [.ref ce, .ref ha, .ref wa, .int (S.1 0), .int (S.1 1), .int (S.1 3), .int (S.1 2), .int (S.1 4), .int (S.1 5), .int (S.1 6)]))], [(ce, .inl (G.2.1 7, 5, .inr (.inr (.inr (.inr (refQ 5 Q ci))))))], [(ha, .inl (G.2.1 1, 5, .inl (hsF S.2.2.1)))], [(wa, .inl (G.2.1 0, 5, .inl S.2.2.2.2.2))], famW NC (fun ι => mcP G (Q ι) (mz ι)), [(q8, .inl (G.2.1 0, 8, .inl (upd (upd (upd (upd (fun _ => 0) 0 0) 1 1) 2 (((mz (ci i)).1) 0)) 3 (((mz (ci i)).1) 1))))]]) rfl ?_
      refine V_dup hC dX11_cellNow_64 rfl ?_
      refine V_iconst hC dX11_cellNow_65 (v := 4) (by decide) ?_
      refine V_aload_n hC dX11_cellNow_66 0 rfl ?_
      refine V_get hC dX11_cellNow_67 inAX9 (mem_fam 5 0 rfl (ci i) (hK.2.2.1 i hi) rfl) rfl 4 (by decide) q996 rfl (v := .int (((mz (ci i)).1) 2)) rfl ?_
      refine V_iast hC dX11_cellNow_70 6 0 rfl rfl (vin (by decide)) (z := 4) (by decide) (ps' := [[(M 0, .inr (12, [.int th, .ref (M 1), .ref (M 2), .ref aw, .ref al, .ref (M 3), .ref (M 4), .ref (M 5), .ref (M 6), .ref y, .int (nI nb), .int (nI ny), .int du, .int mny, .int cl, .int (nI fd), .int ws]))], [(y, .inr (11, [.ref ce, .ref ha, .ref wa, .int (S.1 0), .int (S.1 1), .int (S.1 3), .int (S.1 2), .int (S.1 4), .int (S.1 5), .int (S.1 6)]))], [(ce, .inl (G.2.1 7, 5, .inr (.inr (.inr (.inr (refQ 5 Q ci))))))], [(ha, .inl (G.2.1 1, 5, .inl (hsF S.2.2.1)))], [(wa, .inl (G.2.1 0, 5, .inl S.2.2.2.2.2))], famW NC (fun ι => mcP G (Q ι) (mz ι)), [(q8, .inl (G.2.1 0, 8, .inl (upd (upd (upd (upd (upd (fun _ => 0) 0 0) 1 1) 2 (((mz (ci i)).1) 0)) 3 (((mz (ci i)).1) 1)) 4 (((mz (ci i)).1) 2))))]]) rfl ?_
      refine V_dup hC dX11_cellNow_71 rfl ?_
      refine V_iconst hC dX11_cellNow_72 (v := 5) (by decide) ?_
      refine V_aload_n hC dX11_cellNow_73 0 rfl ?_
      refine V_get hC dX11_cellNow_74 inAX9 (mem_fam 5 0 rfl (ci i) (hK.2.2.1 i hi) rfl) rfl 5 (by decide) q998 rfl (v := .int (((mz (ci i)).1) 3)) rfl ?_
      refine V_iast hC dX11_cellNow_77 6 0 rfl rfl (vin (by decide)) (z := 5) (by decide) (ps' := [[(M 0, .inr (12, [.int th, .ref (M 1), .ref (M 2), .ref aw, .ref al, .ref (M 3), .ref (M 4), .ref (M 5), .ref (M 6), .ref y, .int (nI nb), .int (nI ny), .int du, .int mny, .int cl, .int (nI fd), .int ws]))], [(y, .inr (11, [.ref ce, .ref ha, .ref wa, .int (S.1 0), .int (S.1 1), .int (S.1 3), .int (S.1 2), .int (S.1 4), .int (S.1 5), .int (S.1 6)]))], [(ce, .inl (G.2.1 7, 5, .inr (.inr (.inr (.inr (refQ 5 Q ci))))))], [(ha, .inl (G.2.1 1, 5, .inl (hsF S.2.2.1)))], [(wa, .inl (G.2.1 0, 5, .inl S.2.2.2.2.2))], famW NC (fun ι => mcP G (Q ι) (mz ι)), [(q8, .inl (G.2.1 0, 8, .inl (upd (upd (upd (upd (upd (upd (fun _ => 0) 0 0) 1 1) 2 (((mz (ci i)).1) 0)) 3 (((mz (ci i)).1) 1)) 4 (((mz (ci i)).1) 2)) 5 (((mz (ci i)).1) 3))))]]) rfl ?_
      refine V_dup hC dX11_cellNow_78 rfl ?_
      refine V_bipush hC dX11_cellNow_79 (v := 6) (by decide) ?_
      refine V_aload_n hC dX11_cellNow_81 0 rfl ?_
      refine V_get hC dX11_cellNow_82 inAX9 (mem_fam 5 0 rfl (ci i) (hK.2.2.1 i hi) rfl) rfl 6 (by decide) q1000 rfl (v := .int (((mz (ci i)).1) 4)) rfl ?_
      refine V_iast hC dX11_cellNow_85 6 0 rfl rfl (vin (by decide)) (z := 6) (by decide) (ps' := [[(M 0, .inr (12, [.int th, .ref (M 1), .ref (M 2), .ref aw, .ref al, .ref (M 3), .ref (M 4), .ref (M 5), .ref (M 6), .ref y, .int (nI nb), .int (nI ny), .int du, .int mny, .int cl, .int (nI fd), .int ws]))], [(y, .inr (11, [.ref ce, .ref ha, .ref wa, .int (S.1 0), .int (S.1 1), .int (S.1 3), .int (S.1 2), .int (S.1 4), .int (S.1 5), .int (S.1 6)]))], [(ce, .inl (G.2.1 7, 5, .inr (.inr (.inr (.inr (refQ 5 Q ci))))))], [(ha, .inl (G.2.1 1, 5, .inl (hsF S.2.2.1)))], [(wa, .inl (G.2.1 0, 5, .inl S.2.2.2.2.2))], famW NC (fun ι => mcP G (Q ι) (mz ι)), [(q8, .inl (G.2.1 0, 8, .inl (upd (upd (upd (upd (upd (upd (upd (fun _ => 0) 0 0) 1 1) 2 (((mz (ci i)).1) 0)) 3 (((mz (ci i)).1) 1)) 4 (((mz (ci i)).1) 2)) 5 (((mz (ci i)).1) 3)) 6 (((mz (ci i)).1) 4))))]]) rfl ?_
      refine V_dup hC dX11_cellNow_86 rfl ?_
      refine V_bipush hC dX11_cellNow_87 (v := 7) (by decide) ?_
      refine V_aload_n hC dX11_cellNow_89 0 rfl ?_
      refine V_sub [5, 0, 1, 2, 3, 4, 6] (by decide) (u := [famW NC (fun ι => mcP G (Q ι) (mz ι)), [(M 0, .inr (12, [.int th, .ref (M 1), .ref (M 2), .ref aw, .ref al, .ref (M 3), .ref (M 4), .ref (M 5), .ref (M 6), .ref y, .int (nI nb), .int (nI ny), .int du, .int mny, .int cl, .int (nI fd), .int ws]))], [(y, .inr (11, [.ref ce, .ref ha, .ref wa, .int (S.1 0), .int (S.1 1), .int (S.1 3), .int (S.1 2), .int (S.1 4), .int (S.1 5), .int (S.1 6)]))], [(ce, .inl (G.2.1 7, 5, .inr (.inr (.inr (.inr (refQ 5 Q ci))))))], [(ha, .inl (G.2.1 1, 5, .inl (hsF S.2.2.1)))], [(wa, .inl (G.2.1 0, 5, .inl S.2.2.2.2.2))], [(q8, .inl (G.2.1 0, 8, .inl (upd (upd (upd (upd (upd (upd (upd (fun _ => 0) 0 0) 1 1) 2 (((mz (ci i)).1) 0)) 3 (((mz (ci i)).1) 1)) 4 (((mz (ci i)).1) 2)) 5 (((mz (ci i)).1) 3)) 6 (((mz (ci i)).1) 4))))]]) rfl ?_
      refine V_open (i := ci i) (hK.2.2.1 i hi) ?_
      refine V_calli hC (V_runV hC (rest := [.int 7, .ref q8, .ref q8]) [] (c_X9_melt l G (Q (ci i)) (mz (ci i))) [0] rfl (by decide) q1424 q1346 q1347 q57 q1348 ⟨by decide, by decide, rfl⟩ ⟨by decide, by decide⟩ (ci := 10) rfl (mem_at 0 0 rfl rfl) rfl (Nat.le_of_ble_eq_true rfl) ⟨by decide, by decide⟩ dX11_cellNow_90) (is := [0]) rfl [1, 2, 3, 4, 5, 6, 7] (rs := [famX NC (ci i) (fun ι => mcP G (Q ι) (mz ι)), [(M 0, .inr (12, [.int th, .ref (M 1), .ref (M 2), .ref aw, .ref al, .ref (M 3), .ref (M 4), .ref (M 5), .ref (M 6), .ref y, .int (nI nb), .int (nI ny), .int du, .int mny, .int cl, .int (nI fd), .int ws]))], [(y, .inr (11, [.ref ce, .ref ha, .ref wa, .int (S.1 0), .int (S.1 1), .int (S.1 3), .int (S.1 2), .int (S.1 4), .int (S.1 5), .int (S.1 6)]))], [(ce, .inl (G.2.1 7, 5, .inr (.inr (.inr (.inr (refQ 5 Q ci))))))], [(ha, .inl (G.2.1 1, 5, .inl (hsF S.2.2.1)))], [(wa, .inl (G.2.1 0, 5, .inl S.2.2.2.2.2))], [(q8, .inl (G.2.1 0, 8, .inl (upd (upd (upd (upd (upd (upd (upd (fun _ => 0) 0 0) 1 1) 2 (((mz (ci i)).1) 0)) 3 (((mz (ci i)).1) 1)) 4 (((mz (ci i)).1) 2)) 5 (((mz (ci i)).1) 3)) 6 (((mz (ci i)).1) 4))))]]) rfl (by decide) (by decide) ?_
      rintro _ _ ⟨rfl, rfl⟩
      refine V_close (i := ci i) (g' := fun ι => mcP G (Q ι) (mz ι)) (hK.2.2.1 i hi) (rfl) (fun _ _ _ => rfl) ?_
      refine V_iast hC dX11_cellNow_93 6 0 rfl rfl (vin (by decide)) (z := 7) (by decide) (ps' := [famW NC (fun ι => mcP G (Q ι) (mz ι)), [(M 0, .inr (12, [.int th, .ref (M 1), .ref (M 2), .ref aw, .ref al, .ref (M 3), .ref (M 4), .ref (M 5), .ref (M 6), .ref y, .int (nI nb), .int (nI ny), .int du, .int mny, .int cl, .int (nI fd), .int ws]))], [(y, .inr (11, [.ref ce, .ref ha, .ref wa, .int (S.1 0), .int (S.1 1), .int (S.1 3), .int (S.1 2), .int (S.1 4), .int (S.1 5), .int (S.1 6)]))], [(ce, .inl (G.2.1 7, 5, .inr (.inr (.inr (.inr (refQ 5 Q ci))))))], [(ha, .inl (G.2.1 1, 5, .inl (hsF S.2.2.1)))], [(wa, .inl (G.2.1 0, 5, .inl S.2.2.2.2.2))], [(q8, .inl (G.2.1 0, 8, .inl (upd (upd (upd (upd (upd (upd (upd (upd (fun _ => 0) 0 0) 1 1) 2 (((mz (ci i)).1) 0)) 3 (((mz (ci i)).1) 1)) 4 (((mz (ci i)).1) 2)) 5 (((mz (ci i)).1) 3)) 6 (((mz (ci i)).1) 4)) 7 ((mz (ci i)).2.1 2 + (mz (ci i)).2.1 3))))]]) rfl ?_
      refine V_astore hC dX11_cellNow_94 (L' := [(4, .ref q8), (3, .ref ((Q (ci i)) 0)), (0, .ref (M 0)), (1, .int (nI i)), (2, .int (nI 4))]) (by decide) rfl ?_
      refine V_aload hC dX11_cellNow_96 0 rfl ?_
      refine V_iload_n hC dX11_cellNow_98 4 rfl ?_
      refine V_iald hC dX11_cellNow_99 (mem_at 6 0 rfl rfl) (vin (by decide)) (x := 4) (by decide) ?_
      exact V_iret hC hQ hr [1, 2, 3, 4, 5, 0] (u := [[(M 0, .inr (12, [.int th, .ref (M 1), .ref (M 2), .ref aw, .ref al, .ref (M 3), .ref (M 4), .ref (M 5), .ref (M 6), .ref y, .int (nI nb), .int (nI ny), .int du, .int mny, .int cl, .int (nI fd), .int ws]))], [(y, .inr (11, [.ref ce, .ref ha, .ref wa, .int (S.1 0), .int (S.1 1), .int (S.1 3), .int (S.1 2), .int (S.1 4), .int (S.1 5), .int (S.1 6)]))], [(ce, .inl (G.2.1 7, 5, .inr (.inr (.inr (.inr (refQ 5 Q ci))))))], [(ha, .inl (G.2.1 1, 5, .inl (hsF S.2.2.1)))], [(wa, .inl (G.2.1 0, 5, .inl S.2.2.2.2.2))], famW NC (fun ι => mcP G (Q ι) (mz ι))]) (by decide) rfl (by decide) (by decide) dX11_cellNow_100 (⟨qCell_eq (w := 4) (hK.2.2.2.1 i hi hp).2.2.2.1 hp (by decide) (by decide), rfl⟩)
    · have hp : (S.2.2.1 i).1 0 = 0 := h7
      refine V_iconst hC dX11_cellNow_26 (v := 0) (by decide) ?_
      exact V_iret hC hQ hr [0, 1, 2, 3, 4, 5] (u := [[(M 0, .inr (12, [.int th, .ref (M 1), .ref (M 2), .ref aw, .ref al, .ref (M 3), .ref (M 4), .ref (M 5), .ref (M 6), .ref y, .int (nI nb), .int (nI ny), .int du, .int mny, .int cl, .int (nI fd), .int ws]))], [(y, .inr (11, [.ref ce, .ref ha, .ref wa, .int (S.1 0), .int (S.1 1), .int (S.1 3), .int (S.1 2), .int (S.1 4), .int (S.1 5), .int (S.1 6)]))], [(ce, .inl (G.2.1 7, 5, .inr (.inr (.inr (.inr (refQ 5 Q ci))))))], [(ha, .inl (G.2.1 1, 5, .inl (hsF S.2.2.1)))], [(wa, .inl (G.2.1 0, 5, .inl S.2.2.2.2.2))], famW NC (fun ι => mcP G (Q ι) (mz ι))]) (by decide) rfl (by decide) (by decide) dX11_cellNow_27 (⟨by first | rfl | exact (if_pos hp).symm, rfl⟩)
  · refine V_iload_n hC dX11_cellNow_0 2 rfl ?_
    refine V_if_neT hC dX11_cellNow_1 (tgt := 14) (by decide) (by decide) ?_
    refine V_aload_n hC dX11_cellNow_14 0 rfl ?_
    refine V_get hC dX11_cellNow_15 inAX11 (mem_at 0 0 rfl rfl) rfl 9 (by decide) q1087 rfl (v := .ref y) rfl ?_
    refine V_get hC dX11_cellNow_18 inAX10 (mem_at 1 0 rfl rfl) rfl 1 (by decide) q1040 rfl (v := .ref ha) rfl ?_
    refine V_iload_n hC dX11_cellNow_21 1 rfl ?_
    refine V_zald hC dX11_cellNow_22 (mem_at 3 0 rfl rfl) (vp_in_nI (by omega) (by omega)) (x := i) (nI_clamp (by omega)) ?_
    refine V_if_ne hC dX11_cellNow_23 (tgt := 28) (by decide) (fun h9 => ?_) (fun h9 => ?_)
    · have hp : ¬ (S.2.2.1 i).1 0 = 0 := h9
      refine V_aload_n hC dX11_cellNow_28 0 rfl ?_
      refine V_get hC dX11_cellNow_29 inAX11 (mem_at 0 0 rfl rfl) rfl 9 (by decide) q1087 rfl (v := .ref y) rfl ?_
      refine V_get hC dX11_cellNow_32 inAX10 (mem_at 1 0 rfl rfl) rfl 0 (by decide) q1038 rfl (v := .ref ce) rfl ?_
      refine V_iload_n hC dX11_cellNow_35 1 rfl ?_
      refine V_aald hC dX11_cellNow_36 7 rfl (mem_at 2 0 rfl rfl) (vp_in_nI (by omega) (by omega)) (x := i) (nI_clamp (by omega)) (b := (Q (ci i)) 0) (refQ_at (hi)) ?_
      refine V_astore_n hC dX11_cellNow_37 (L' := [(3, .ref ((Q (ci i)) 0)), (0, .ref (M 0)), (1, .int (nI i)), (2, .int (nI 5))]) (by decide) rfl ?_
      refine V_bipush hC dX11_cellNow_38 (v := 8) (by decide) ?_
      refine V_newa_i hC q103 (N := 8) (by decide) (by decide) (by decide) (by decide) (by decide) dX11_cellNow_40 (fun q10 => ?_)
      refine V_dup hC dX11_cellNow_42 rfl ?_
      refine V_iconst hC dX11_cellNow_43 (v := 0) (by decide) ?_
      refine V_iconst hC dX11_cellNow_44 (v := 0) (by decide) ?_
      refine V_iast hC dX11_cellNow_45 6 0 rfl rfl (vin (by decide)) (z := 0) (by decide) (ps' := [[(M 0, .inr (12, [.int th, .ref (M 1), .ref (M 2), .ref aw, .ref al, .ref (M 3), .ref (M 4), .ref (M 5), .ref (M 6), .ref y, .int (nI nb), .int (nI ny), .int du, .int mny, .int cl, .int (nI fd), .int ws]))], [(y, .inr (11, [.ref ce, .ref ha, .ref wa, .int (S.1 0), .int (S.1 1), .int (S.1 3), .int (S.1 2), .int (S.1 4), .int (S.1 5), .int (S.1 6)]))], [(ce, .inl (G.2.1 7, 5, .inr (.inr (.inr (.inr (refQ 5 Q ci))))))], [(ha, .inl (G.2.1 1, 5, .inl (hsF S.2.2.1)))], [(wa, .inl (G.2.1 0, 5, .inl S.2.2.2.2.2))], famW NC (fun ι => mcP G (Q ι) (mz ι)), [(q10, .inl (G.2.1 0, 8, .inl (upd (fun _ => 0) 0 0)))]]) rfl ?_
      refine V_dup hC dX11_cellNow_46 rfl ?_
      refine V_iconst hC dX11_cellNow_47 (v := 1) (by decide) ?_
      refine V_iconst hC dX11_cellNow_48 (v := 1) (by decide) ?_
      refine V_iast hC dX11_cellNow_49 6 0 rfl rfl (vin (by decide)) (z := 1) (by decide) (ps' := [[(M 0, .inr (12, [.int th, .ref (M 1), .ref (M 2), .ref aw, .ref al, .ref (M 3), .ref (M 4), .ref (M 5), .ref (M 6), .ref y, .int (nI nb), .int (nI ny), .int du, .int mny, .int cl, .int (nI fd), .int ws]))], [(y, .inr (11, [.ref ce, .ref ha, .ref wa, .int (S.1 0), .int (S.1 1), .int (S.1 3), .int (S.1 2), .int (S.1 4), .int (S.1 5), .int (S.1 6)]))], [(ce, .inl (G.2.1 7, 5, .inr (.inr (.inr (.inr (refQ 5 Q ci))))))], [(ha, .inl (G.2.1 1, 5, .inl (hsF S.2.2.1)))], [(wa, .inl (G.2.1 0, 5, .inl S.2.2.2.2.2))], famW NC (fun ι => mcP G (Q ι) (mz ι)), [(q10, .inl (G.2.1 0, 8, .inl (upd (upd (fun _ => 0) 0 0) 1 1)))]]) rfl ?_
      refine V_dup hC dX11_cellNow_50 rfl ?_
      refine V_iconst hC dX11_cellNow_51 (v := 2) (by decide) ?_
      refine V_aload_n hC dX11_cellNow_52 0 rfl ?_
      refine V_get hC dX11_cellNow_53 inAX9 (mem_fam 5 0 rfl (ci i) (hK.2.2.1 i hi) rfl) rfl 2 (by decide) q992 rfl (v := .int (((mz (ci i)).1) 0)) rfl ?_
      refine V_iast hC dX11_cellNow_56 6 0 rfl rfl (vin (by decide)) (z := 2) (by decide) (ps' := [[(M 0, .inr (12, [.int th, .ref (M 1), .ref (M 2), .ref aw, .ref al, .ref (M 3), .ref (M 4), .ref (M 5), .ref (M 6), .ref y, .int (nI nb), .int (nI ny), .int du, .int mny, .int cl, .int (nI fd), .int ws]))], [(y, .inr (11, [.ref ce, .ref ha, .ref wa, .int (S.1 0), .int (S.1 1), .int (S.1 3), .int (S.1 2), .int (S.1 4), .int (S.1 5), .int (S.1 6)]))], [(ce, .inl (G.2.1 7, 5, .inr (.inr (.inr (.inr (refQ 5 Q ci))))))], [(ha, .inl (G.2.1 1, 5, .inl (hsF S.2.2.1)))], [(wa, .inl (G.2.1 0, 5, .inl S.2.2.2.2.2))], famW NC (fun ι => mcP G (Q ι) (mz ι)), [(q10, .inl (G.2.1 0, 8, .inl (upd (upd (upd (fun _ => 0) 0 0) 1 1) 2 (((mz (ci i)).1) 0))))]]) rfl ?_
      refine V_dup hC dX11_cellNow_57 rfl ?_
      refine V_iconst hC dX11_cellNow_58 (v := 3) (by decide) ?_
      refine V_aload_n hC dX11_cellNow_59 0 rfl ?_
      refine V_get hC dX11_cellNow_60 inAX9 (mem_fam 5 0 rfl (ci i) (hK.2.2.1 i hi) rfl) rfl 3 (by decide) q994 rfl (v := .int (((mz (ci i)).1) 1)) rfl ?_
      refine V_iast hC dX11_cellNow_63 6 0 rfl rfl (vin (by decide)) (z := 3) (by decide) (ps' := [[(M 0, .inr (12, [.int th, .ref (M 1), .ref (M 2), .ref aw, .ref al, .ref (M 3), .ref (M 4), .ref (M 5), .ref (M 6), .ref y, .int (nI nb), .int (nI ny), .int du, .int mny, .int cl, .int (nI fd), .int ws]))], [(y, .inr (11, [.ref ce, .ref ha, .ref wa, .int (S.1 0), .int (S.1 1), .int (S.1 3), .int (S.1 2), .int (S.1 4), .int (S.1 5), .int (S.1 6)]))], [(ce, .inl (G.2.1 7, 5, .inr (.inr (.inr (.inr (refQ 5 Q ci))))))], [(ha, .inl (G.2.1 1, 5, .inl (hsF S.2.2.1)))], [(wa, .inl (G.2.1 0, 5, .inl S.2.2.2.2.2))], famW NC (fun ι => mcP G (Q ι) (mz ι)), [(q10, .inl (G.2.1 0, 8, .inl (upd (upd (upd (upd (fun _ => 0) 0 0) 1 1) 2 (((mz (ci i)).1) 0)) 3 (((mz (ci i)).1) 1))))]]) rfl ?_
      refine V_dup hC dX11_cellNow_64 rfl ?_
      refine V_iconst hC dX11_cellNow_65 (v := 4) (by decide) ?_
      refine V_aload_n hC dX11_cellNow_66 0 rfl ?_
      refine V_get hC dX11_cellNow_67 inAX9 (mem_fam 5 0 rfl (ci i) (hK.2.2.1 i hi) rfl) rfl 4 (by decide) q996 rfl (v := .int (((mz (ci i)).1) 2)) rfl ?_
      refine V_iast hC dX11_cellNow_70 6 0 rfl rfl (vin (by decide)) (z := 4) (by decide) (ps' := [[(M 0, .inr (12, [.int th, .ref (M 1), .ref (M 2), .ref aw, .ref al, .ref (M 3), .ref (M 4), .ref (M 5), .ref (M 6), .ref y, .int (nI nb), .int (nI ny), .int du, .int mny, .int cl, .int (nI fd), .int ws]))], [(y, .inr (11, [.ref ce, .ref ha, .ref wa, .int (S.1 0), .int (S.1 1), .int (S.1 3), .int (S.1 2), .int (S.1 4), .int (S.1 5), .int (S.1 6)]))], [(ce, .inl (G.2.1 7, 5, .inr (.inr (.inr (.inr (refQ 5 Q ci))))))], [(ha, .inl (G.2.1 1, 5, .inl (hsF S.2.2.1)))], [(wa, .inl (G.2.1 0, 5, .inl S.2.2.2.2.2))], famW NC (fun ι => mcP G (Q ι) (mz ι)), [(q10, .inl (G.2.1 0, 8, .inl (upd (upd (upd (upd (upd (fun _ => 0) 0 0) 1 1) 2 (((mz (ci i)).1) 0)) 3 (((mz (ci i)).1) 1)) 4 (((mz (ci i)).1) 2))))]]) rfl ?_
      refine V_dup hC dX11_cellNow_71 rfl ?_
      refine V_iconst hC dX11_cellNow_72 (v := 5) (by decide) ?_
      refine V_aload_n hC dX11_cellNow_73 0 rfl ?_
      refine V_get hC dX11_cellNow_74 inAX9 (mem_fam 5 0 rfl (ci i) (hK.2.2.1 i hi) rfl) rfl 5 (by decide) q998 rfl (v := .int (((mz (ci i)).1) 3)) rfl ?_
      refine V_iast hC dX11_cellNow_77 6 0 rfl rfl (vin (by decide)) (z := 5) (by decide) (ps' := [[(M 0, .inr (12, [.int th, .ref (M 1), .ref (M 2), .ref aw, .ref al, .ref (M 3), .ref (M 4), .ref (M 5), .ref (M 6), .ref y, .int (nI nb), .int (nI ny), .int du, .int mny, .int cl, .int (nI fd), .int ws]))], [(y, .inr (11, [.ref ce, .ref ha, .ref wa, .int (S.1 0), .int (S.1 1), .int (S.1 3), .int (S.1 2), .int (S.1 4), .int (S.1 5), .int (S.1 6)]))], [(ce, .inl (G.2.1 7, 5, .inr (.inr (.inr (.inr (refQ 5 Q ci))))))], [(ha, .inl (G.2.1 1, 5, .inl (hsF S.2.2.1)))], [(wa, .inl (G.2.1 0, 5, .inl S.2.2.2.2.2))], famW NC (fun ι => mcP G (Q ι) (mz ι)), [(q10, .inl (G.2.1 0, 8, .inl (upd (upd (upd (upd (upd (upd (fun _ => 0) 0 0) 1 1) 2 (((mz (ci i)).1) 0)) 3 (((mz (ci i)).1) 1)) 4 (((mz (ci i)).1) 2)) 5 (((mz (ci i)).1) 3))))]]) rfl ?_
      refine V_dup hC dX11_cellNow_78 rfl ?_
      refine V_bipush hC dX11_cellNow_79 (v := 6) (by decide) ?_
      refine V_aload_n hC dX11_cellNow_81 0 rfl ?_
      refine V_get hC dX11_cellNow_82 inAX9 (mem_fam 5 0 rfl (ci i) (hK.2.2.1 i hi) rfl) rfl 6 (by decide) q1000 rfl (v := .int (((mz (ci i)).1) 4)) rfl ?_
      refine V_iast hC dX11_cellNow_85 6 0 rfl rfl (vin (by decide)) (z := 6) (by decide) (ps' := [[(M 0, .inr (12, [.int th, .ref (M 1), .ref (M 2), .ref aw, .ref al, .ref (M 3), .ref (M 4), .ref (M 5), .ref (M 6), .ref y, .int (nI nb), .int (nI ny), .int du, .int mny, .int cl, .int (nI fd), .int ws]))], [(y, .inr (11, [.ref ce, .ref ha, .ref wa, .int (S.1 0), .int (S.1 1), .int (S.1 3), .int (S.1 2), .int (S.1 4), .int (S.1 5), .int (S.1 6)]))], [(ce, .inl (G.2.1 7, 5, .inr (.inr (.inr (.inr (refQ 5 Q ci))))))], [(ha, .inl (G.2.1 1, 5, .inl (hsF S.2.2.1)))], [(wa, .inl (G.2.1 0, 5, .inl S.2.2.2.2.2))], famW NC (fun ι => mcP G (Q ι) (mz ι)), [(q10, .inl (G.2.1 0, 8, .inl (upd (upd (upd (upd (upd (upd (upd (fun _ => 0) 0 0) 1 1) 2 (((mz (ci i)).1) 0)) 3 (((mz (ci i)).1) 1)) 4 (((mz (ci i)).1) 2)) 5 (((mz (ci i)).1) 3)) 6 (((mz (ci i)).1) 4))))]]) rfl ?_
      refine V_dup hC dX11_cellNow_86 rfl ?_
      refine V_bipush hC dX11_cellNow_87 (v := 7) (by decide) ?_
      refine V_aload_n hC dX11_cellNow_89 0 rfl ?_
      refine V_sub [5, 0, 1, 2, 3, 4, 6] (by decide) (u := [famW NC (fun ι => mcP G (Q ι) (mz ι)), [(M 0, .inr (12, [.int th, .ref (M 1), .ref (M 2), .ref aw, .ref al, .ref (M 3), .ref (M 4), .ref (M 5), .ref (M 6), .ref y, .int (nI nb), .int (nI ny), .int du, .int mny, .int cl, .int (nI fd), .int ws]))], [(y, .inr (11, [.ref ce, .ref ha, .ref wa, .int (S.1 0), .int (S.1 1), .int (S.1 3), .int (S.1 2), .int (S.1 4), .int (S.1 5), .int (S.1 6)]))], [(ce, .inl (G.2.1 7, 5, .inr (.inr (.inr (.inr (refQ 5 Q ci))))))], [(ha, .inl (G.2.1 1, 5, .inl (hsF S.2.2.1)))], [(wa, .inl (G.2.1 0, 5, .inl S.2.2.2.2.2))], [(q10, .inl (G.2.1 0, 8, .inl (upd (upd (upd (upd (upd (upd (upd (fun _ => 0) 0 0) 1 1) 2 (((mz (ci i)).1) 0)) 3 (((mz (ci i)).1) 1)) 4 (((mz (ci i)).1) 2)) 5 (((mz (ci i)).1) 3)) 6 (((mz (ci i)).1) 4))))]]) rfl ?_
      refine V_open (i := ci i) (hK.2.2.1 i hi) ?_
      refine V_calli hC (V_runV hC (rest := [.int 7, .ref q10, .ref q10]) [] (c_X9_melt l G (Q (ci i)) (mz (ci i))) [0] rfl (by decide) q1424 q1346 q1347 q57 q1348 ⟨by decide, by decide, rfl⟩ ⟨by decide, by decide⟩ (ci := 10) rfl (mem_at 0 0 rfl rfl) rfl (Nat.le_of_ble_eq_true rfl) ⟨by decide, by decide⟩ dX11_cellNow_90) (is := [0]) rfl [1, 2, 3, 4, 5, 6, 7] (rs := [famX NC (ci i) (fun ι => mcP G (Q ι) (mz ι)), [(M 0, .inr (12, [.int th, .ref (M 1), .ref (M 2), .ref aw, .ref al, .ref (M 3), .ref (M 4), .ref (M 5), .ref (M 6), .ref y, .int (nI nb), .int (nI ny), .int du, .int mny, .int cl, .int (nI fd), .int ws]))], [(y, .inr (11, [.ref ce, .ref ha, .ref wa, .int (S.1 0), .int (S.1 1), .int (S.1 3), .int (S.1 2), .int (S.1 4), .int (S.1 5), .int (S.1 6)]))], [(ce, .inl (G.2.1 7, 5, .inr (.inr (.inr (.inr (refQ 5 Q ci))))))], [(ha, .inl (G.2.1 1, 5, .inl (hsF S.2.2.1)))], [(wa, .inl (G.2.1 0, 5, .inl S.2.2.2.2.2))], [(q10, .inl (G.2.1 0, 8, .inl (upd (upd (upd (upd (upd (upd (upd (fun _ => 0) 0 0) 1 1) 2 (((mz (ci i)).1) 0)) 3 (((mz (ci i)).1) 1)) 4 (((mz (ci i)).1) 2)) 5 (((mz (ci i)).1) 3)) 6 (((mz (ci i)).1) 4))))]]) rfl (by decide) (by decide) ?_
      rintro _ _ ⟨rfl, rfl⟩
      refine V_close (i := ci i) (g' := fun ι => mcP G (Q ι) (mz ι)) (hK.2.2.1 i hi) (rfl) (fun _ _ _ => rfl) ?_
      refine V_iast hC dX11_cellNow_93 6 0 rfl rfl (vin (by decide)) (z := 7) (by decide) (ps' := [famW NC (fun ι => mcP G (Q ι) (mz ι)), [(M 0, .inr (12, [.int th, .ref (M 1), .ref (M 2), .ref aw, .ref al, .ref (M 3), .ref (M 4), .ref (M 5), .ref (M 6), .ref y, .int (nI nb), .int (nI ny), .int du, .int mny, .int cl, .int (nI fd), .int ws]))], [(y, .inr (11, [.ref ce, .ref ha, .ref wa, .int (S.1 0), .int (S.1 1), .int (S.1 3), .int (S.1 2), .int (S.1 4), .int (S.1 5), .int (S.1 6)]))], [(ce, .inl (G.2.1 7, 5, .inr (.inr (.inr (.inr (refQ 5 Q ci))))))], [(ha, .inl (G.2.1 1, 5, .inl (hsF S.2.2.1)))], [(wa, .inl (G.2.1 0, 5, .inl S.2.2.2.2.2))], [(q10, .inl (G.2.1 0, 8, .inl (upd (upd (upd (upd (upd (upd (upd (upd (fun _ => 0) 0 0) 1 1) 2 (((mz (ci i)).1) 0)) 3 (((mz (ci i)).1) 1)) 4 (((mz (ci i)).1) 2)) 5 (((mz (ci i)).1) 3)) 6 (((mz (ci i)).1) 4)) 7 ((mz (ci i)).2.1 2 + (mz (ci i)).2.1 3))))]]) rfl ?_
      refine V_astore hC dX11_cellNow_94 (L' := [(4, .ref q10), (3, .ref ((Q (ci i)) 0)), (0, .ref (M 0)), (1, .int (nI i)), (2, .int (nI 5))]) (by decide) rfl ?_
      refine V_aload hC dX11_cellNow_96 0 rfl ?_
      refine V_iload_n hC dX11_cellNow_98 4 rfl ?_
      refine V_iald hC dX11_cellNow_99 (mem_at 6 0 rfl rfl) (vin (by decide)) (x := 5) (by decide) ?_
      exact V_iret hC hQ hr [1, 2, 3, 4, 5, 0] (u := [[(M 0, .inr (12, [.int th, .ref (M 1), .ref (M 2), .ref aw, .ref al, .ref (M 3), .ref (M 4), .ref (M 5), .ref (M 6), .ref y, .int (nI nb), .int (nI ny), .int du, .int mny, .int cl, .int (nI fd), .int ws]))], [(y, .inr (11, [.ref ce, .ref ha, .ref wa, .int (S.1 0), .int (S.1 1), .int (S.1 3), .int (S.1 2), .int (S.1 4), .int (S.1 5), .int (S.1 6)]))], [(ce, .inl (G.2.1 7, 5, .inr (.inr (.inr (.inr (refQ 5 Q ci))))))], [(ha, .inl (G.2.1 1, 5, .inl (hsF S.2.2.1)))], [(wa, .inl (G.2.1 0, 5, .inl S.2.2.2.2.2))], famW NC (fun ι => mcP G (Q ι) (mz ι))]) (by decide) rfl (by decide) (by decide) dX11_cellNow_100 (⟨qCell_eq (w := 5) (hK.2.2.2.1 i hi hp).2.2.2.1 hp (by decide) (by decide), rfl⟩)
    · have hp : (S.2.2.1 i).1 0 = 0 := h9
      refine V_iconst hC dX11_cellNow_26 (v := 0) (by decide) ?_
      exact V_iret hC hQ hr [0, 1, 2, 3, 4, 5] (u := [[(M 0, .inr (12, [.int th, .ref (M 1), .ref (M 2), .ref aw, .ref al, .ref (M 3), .ref (M 4), .ref (M 5), .ref (M 6), .ref y, .int (nI nb), .int (nI ny), .int du, .int mny, .int cl, .int (nI fd), .int ws]))], [(y, .inr (11, [.ref ce, .ref ha, .ref wa, .int (S.1 0), .int (S.1 1), .int (S.1 3), .int (S.1 2), .int (S.1 4), .int (S.1 5), .int (S.1 6)]))], [(ce, .inl (G.2.1 7, 5, .inr (.inr (.inr (.inr (refQ 5 Q ci))))))], [(ha, .inl (G.2.1 1, 5, .inl (hsF S.2.2.1)))], [(wa, .inl (G.2.1 0, 5, .inl S.2.2.2.2.2))], famW NC (fun ι => mcP G (Q ι) (mz ι))]) (by decide) rfl (by decide) (by decide) dX11_cellNow_27 (⟨by first | rfl | exact (if_pos hp).symm, rfl⟩)
  · refine V_iload_n hC dX11_cellNow_0 2 rfl ?_
    refine V_if_neT hC dX11_cellNow_1 (tgt := 14) (by decide) (by decide) ?_
    refine V_aload_n hC dX11_cellNow_14 0 rfl ?_
    refine V_get hC dX11_cellNow_15 inAX11 (mem_at 0 0 rfl rfl) rfl 9 (by decide) q1087 rfl (v := .ref y) rfl ?_
    refine V_get hC dX11_cellNow_18 inAX10 (mem_at 1 0 rfl rfl) rfl 1 (by decide) q1040 rfl (v := .ref ha) rfl ?_
    refine V_iload_n hC dX11_cellNow_21 1 rfl ?_
    refine V_zald hC dX11_cellNow_22 (mem_at 3 0 rfl rfl) (vp_in_nI (by omega) (by omega)) (x := i) (nI_clamp (by omega)) ?_
    refine V_if_ne hC dX11_cellNow_23 (tgt := 28) (by decide) (fun h11 => ?_) (fun h11 => ?_)
    · have hp : ¬ (S.2.2.1 i).1 0 = 0 := h11
      refine V_aload_n hC dX11_cellNow_28 0 rfl ?_
      refine V_get hC dX11_cellNow_29 inAX11 (mem_at 0 0 rfl rfl) rfl 9 (by decide) q1087 rfl (v := .ref y) rfl ?_
      refine V_get hC dX11_cellNow_32 inAX10 (mem_at 1 0 rfl rfl) rfl 0 (by decide) q1038 rfl (v := .ref ce) rfl ?_
      refine V_iload_n hC dX11_cellNow_35 1 rfl ?_
      refine V_aald hC dX11_cellNow_36 7 rfl (mem_at 2 0 rfl rfl) (vp_in_nI (by omega) (by omega)) (x := i) (nI_clamp (by omega)) (b := (Q (ci i)) 0) (refQ_at (hi)) ?_
      refine V_astore_n hC dX11_cellNow_37 (L' := [(3, .ref ((Q (ci i)) 0)), (0, .ref (M 0)), (1, .int (nI i)), (2, .int (nI 6))]) (by decide) rfl ?_
      refine V_bipush hC dX11_cellNow_38 (v := 8) (by decide) ?_
      refine V_newa_i hC q103 (N := 8) (by decide) (by decide) (by decide) (by decide) (by decide) dX11_cellNow_40 (fun q12 => ?_)
      refine V_dup hC dX11_cellNow_42 rfl ?_
      refine V_iconst hC dX11_cellNow_43 (v := 0) (by decide) ?_
      refine V_iconst hC dX11_cellNow_44 (v := 0) (by decide) ?_
      refine V_iast hC dX11_cellNow_45 6 0 rfl rfl (vin (by decide)) (z := 0) (by decide) (ps' := [[(M 0, .inr (12, [.int th, .ref (M 1), .ref (M 2), .ref aw, .ref al, .ref (M 3), .ref (M 4), .ref (M 5), .ref (M 6), .ref y, .int (nI nb), .int (nI ny), .int du, .int mny, .int cl, .int (nI fd), .int ws]))], [(y, .inr (11, [.ref ce, .ref ha, .ref wa, .int (S.1 0), .int (S.1 1), .int (S.1 3), .int (S.1 2), .int (S.1 4), .int (S.1 5), .int (S.1 6)]))], [(ce, .inl (G.2.1 7, 5, .inr (.inr (.inr (.inr (refQ 5 Q ci))))))], [(ha, .inl (G.2.1 1, 5, .inl (hsF S.2.2.1)))], [(wa, .inl (G.2.1 0, 5, .inl S.2.2.2.2.2))], famW NC (fun ι => mcP G (Q ι) (mz ι)), [(q12, .inl (G.2.1 0, 8, .inl (upd (fun _ => 0) 0 0)))]]) rfl ?_
      refine V_dup hC dX11_cellNow_46 rfl ?_
      refine V_iconst hC dX11_cellNow_47 (v := 1) (by decide) ?_
      refine V_iconst hC dX11_cellNow_48 (v := 1) (by decide) ?_
      refine V_iast hC dX11_cellNow_49 6 0 rfl rfl (vin (by decide)) (z := 1) (by decide) (ps' := [[(M 0, .inr (12, [.int th, .ref (M 1), .ref (M 2), .ref aw, .ref al, .ref (M 3), .ref (M 4), .ref (M 5), .ref (M 6), .ref y, .int (nI nb), .int (nI ny), .int du, .int mny, .int cl, .int (nI fd), .int ws]))], [(y, .inr (11, [.ref ce, .ref ha, .ref wa, .int (S.1 0), .int (S.1 1), .int (S.1 3), .int (S.1 2), .int (S.1 4), .int (S.1 5), .int (S.1 6)]))], [(ce, .inl (G.2.1 7, 5, .inr (.inr (.inr (.inr (refQ 5 Q ci))))))], [(ha, .inl (G.2.1 1, 5, .inl (hsF S.2.2.1)))], [(wa, .inl (G.2.1 0, 5, .inl S.2.2.2.2.2))], famW NC (fun ι => mcP G (Q ι) (mz ι)), [(q12, .inl (G.2.1 0, 8, .inl (upd (upd (fun _ => 0) 0 0) 1 1)))]]) rfl ?_
      refine V_dup hC dX11_cellNow_50 rfl ?_
      refine V_iconst hC dX11_cellNow_51 (v := 2) (by decide) ?_
      refine V_aload_n hC dX11_cellNow_52 0 rfl ?_
      refine V_get hC dX11_cellNow_53 inAX9 (mem_fam 5 0 rfl (ci i) (hK.2.2.1 i hi) rfl) rfl 2 (by decide) q992 rfl (v := .int (((mz (ci i)).1) 0)) rfl ?_
      refine V_iast hC dX11_cellNow_56 6 0 rfl rfl (vin (by decide)) (z := 2) (by decide) (ps' := [[(M 0, .inr (12, [.int th, .ref (M 1), .ref (M 2), .ref aw, .ref al, .ref (M 3), .ref (M 4), .ref (M 5), .ref (M 6), .ref y, .int (nI nb), .int (nI ny), .int du, .int mny, .int cl, .int (nI fd), .int ws]))], [(y, .inr (11, [.ref ce, .ref ha, .ref wa, .int (S.1 0), .int (S.1 1), .int (S.1 3), .int (S.1 2), .int (S.1 4), .int (S.1 5), .int (S.1 6)]))], [(ce, .inl (G.2.1 7, 5, .inr (.inr (.inr (.inr (refQ 5 Q ci))))))], [(ha, .inl (G.2.1 1, 5, .inl (hsF S.2.2.1)))], [(wa, .inl (G.2.1 0, 5, .inl S.2.2.2.2.2))], famW NC (fun ι => mcP G (Q ι) (mz ι)), [(q12, .inl (G.2.1 0, 8, .inl (upd (upd (upd (fun _ => 0) 0 0) 1 1) 2 (((mz (ci i)).1) 0))))]]) rfl ?_
      refine V_dup hC dX11_cellNow_57 rfl ?_
      refine V_iconst hC dX11_cellNow_58 (v := 3) (by decide) ?_
      refine V_aload_n hC dX11_cellNow_59 0 rfl ?_
      refine V_get hC dX11_cellNow_60 inAX9 (mem_fam 5 0 rfl (ci i) (hK.2.2.1 i hi) rfl) rfl 3 (by decide) q994 rfl (v := .int (((mz (ci i)).1) 1)) rfl ?_
      refine V_iast hC dX11_cellNow_63 6 0 rfl rfl (vin (by decide)) (z := 3) (by decide) (ps' := [[(M 0, .inr (12, [.int th, .ref (M 1), .ref (M 2), .ref aw, .ref al, .ref (M 3), .ref (M 4), .ref (M 5), .ref (M 6), .ref y, .int (nI nb), .int (nI ny), .int du, .int mny, .int cl, .int (nI fd), .int ws]))], [(y, .inr (11, [.ref ce, .ref ha, .ref wa, .int (S.1 0), .int (S.1 1), .int (S.1 3), .int (S.1 2), .int (S.1 4), .int (S.1 5), .int (S.1 6)]))], [(ce, .inl (G.2.1 7, 5, .inr (.inr (.inr (.inr (refQ 5 Q ci))))))], [(ha, .inl (G.2.1 1, 5, .inl (hsF S.2.2.1)))], [(wa, .inl (G.2.1 0, 5, .inl S.2.2.2.2.2))], famW NC (fun ι => mcP G (Q ι) (mz ι)), [(q12, .inl (G.2.1 0, 8, .inl (upd (upd (upd (upd (fun _ => 0) 0 0) 1 1) 2 (((mz (ci i)).1) 0)) 3 (((mz (ci i)).1) 1))))]]) rfl ?_
      refine V_dup hC dX11_cellNow_64 rfl ?_
      refine V_iconst hC dX11_cellNow_65 (v := 4) (by decide) ?_
      refine V_aload_n hC dX11_cellNow_66 0 rfl ?_
      refine V_get hC dX11_cellNow_67 inAX9 (mem_fam 5 0 rfl (ci i) (hK.2.2.1 i hi) rfl) rfl 4 (by decide) q996 rfl (v := .int (((mz (ci i)).1) 2)) rfl ?_
      refine V_iast hC dX11_cellNow_70 6 0 rfl rfl (vin (by decide)) (z := 4) (by decide) (ps' := [[(M 0, .inr (12, [.int th, .ref (M 1), .ref (M 2), .ref aw, .ref al, .ref (M 3), .ref (M 4), .ref (M 5), .ref (M 6), .ref y, .int (nI nb), .int (nI ny), .int du, .int mny, .int cl, .int (nI fd), .int ws]))], [(y, .inr (11, [.ref ce, .ref ha, .ref wa, .int (S.1 0), .int (S.1 1), .int (S.1 3), .int (S.1 2), .int (S.1 4), .int (S.1 5), .int (S.1 6)]))], [(ce, .inl (G.2.1 7, 5, .inr (.inr (.inr (.inr (refQ 5 Q ci))))))], [(ha, .inl (G.2.1 1, 5, .inl (hsF S.2.2.1)))], [(wa, .inl (G.2.1 0, 5, .inl S.2.2.2.2.2))], famW NC (fun ι => mcP G (Q ι) (mz ι)), [(q12, .inl (G.2.1 0, 8, .inl (upd (upd (upd (upd (upd (fun _ => 0) 0 0) 1 1) 2 (((mz (ci i)).1) 0)) 3 (((mz (ci i)).1) 1)) 4 (((mz (ci i)).1) 2))))]]) rfl ?_
      refine V_dup hC dX11_cellNow_71 rfl ?_
      refine V_iconst hC dX11_cellNow_72 (v := 5) (by decide) ?_
      refine V_aload_n hC dX11_cellNow_73 0 rfl ?_
      refine V_get hC dX11_cellNow_74 inAX9 (mem_fam 5 0 rfl (ci i) (hK.2.2.1 i hi) rfl) rfl 5 (by decide) q998 rfl (v := .int (((mz (ci i)).1) 3)) rfl ?_
      refine V_iast hC dX11_cellNow_77 6 0 rfl rfl (vin (by decide)) (z := 5) (by decide) (ps' := [[(M 0, .inr (12, [.int th, .ref (M 1), .ref (M 2), .ref aw, .ref al, .ref (M 3), .ref (M 4), .ref (M 5), .ref (M 6), .ref y, .int (nI nb), .int (nI ny), .int du, .int mny, .int cl, .int (nI fd), .int ws]))], [(y, .inr (11, [.ref ce, .ref ha, .ref wa, .int (S.1 0), .int (S.1 1), .int (S.1 3), .int (S.1 2), .int (S.1 4), .int (S.1 5), .int (S.1 6)]))], [(ce, .inl (G.2.1 7, 5, .inr (.inr (.inr (.inr (refQ 5 Q ci))))))], [(ha, .inl (G.2.1 1, 5, .inl (hsF S.2.2.1)))], [(wa, .inl (G.2.1 0, 5, .inl S.2.2.2.2.2))], famW NC (fun ι => mcP G (Q ι) (mz ι)), [(q12, .inl (G.2.1 0, 8, .inl (upd (upd (upd (upd (upd (upd (fun _ => 0) 0 0) 1 1) 2 (((mz (ci i)).1) 0)) 3 (((mz (ci i)).1) 1)) 4 (((mz (ci i)).1) 2)) 5 (((mz (ci i)).1) 3))))]]) rfl ?_
      refine V_dup hC dX11_cellNow_78 rfl ?_
      refine V_bipush hC dX11_cellNow_79 (v := 6) (by decide) ?_
      refine V_aload_n hC dX11_cellNow_81 0 rfl ?_
      refine V_get hC dX11_cellNow_82 inAX9 (mem_fam 5 0 rfl (ci i) (hK.2.2.1 i hi) rfl) rfl 6 (by decide) q1000 rfl (v := .int (((mz (ci i)).1) 4)) rfl ?_
      refine V_iast hC dX11_cellNow_85 6 0 rfl rfl (vin (by decide)) (z := 6) (by decide) (ps' := [[(M 0, .inr (12, [.int th, .ref (M 1), .ref (M 2), .ref aw, .ref al, .ref (M 3), .ref (M 4), .ref (M 5), .ref (M 6), .ref y, .int (nI nb), .int (nI ny), .int du, .int mny, .int cl, .int (nI fd), .int ws]))], [(y, .inr (11, [.ref ce, .ref ha, .ref wa, .int (S.1 0), .int (S.1 1), .int (S.1 3), .int (S.1 2), .int (S.1 4), .int (S.1 5), .int (S.1 6)]))], [(ce, .inl (G.2.1 7, 5, .inr (.inr (.inr (.inr (refQ 5 Q ci))))))], [(ha, .inl (G.2.1 1, 5, .inl (hsF S.2.2.1)))], [(wa, .inl (G.2.1 0, 5, .inl S.2.2.2.2.2))], famW NC (fun ι => mcP G (Q ι) (mz ι)), [(q12, .inl (G.2.1 0, 8, .inl (upd (upd (upd (upd (upd (upd (upd (fun _ => 0) 0 0) 1 1) 2 (((mz (ci i)).1) 0)) 3 (((mz (ci i)).1) 1)) 4 (((mz (ci i)).1) 2)) 5 (((mz (ci i)).1) 3)) 6 (((mz (ci i)).1) 4))))]]) rfl ?_
      refine V_dup hC dX11_cellNow_86 rfl ?_
      refine V_bipush hC dX11_cellNow_87 (v := 7) (by decide) ?_
      refine V_aload_n hC dX11_cellNow_89 0 rfl ?_
      refine V_sub [5, 0, 1, 2, 3, 4, 6] (by decide) (u := [famW NC (fun ι => mcP G (Q ι) (mz ι)), [(M 0, .inr (12, [.int th, .ref (M 1), .ref (M 2), .ref aw, .ref al, .ref (M 3), .ref (M 4), .ref (M 5), .ref (M 6), .ref y, .int (nI nb), .int (nI ny), .int du, .int mny, .int cl, .int (nI fd), .int ws]))], [(y, .inr (11, [.ref ce, .ref ha, .ref wa, .int (S.1 0), .int (S.1 1), .int (S.1 3), .int (S.1 2), .int (S.1 4), .int (S.1 5), .int (S.1 6)]))], [(ce, .inl (G.2.1 7, 5, .inr (.inr (.inr (.inr (refQ 5 Q ci))))))], [(ha, .inl (G.2.1 1, 5, .inl (hsF S.2.2.1)))], [(wa, .inl (G.2.1 0, 5, .inl S.2.2.2.2.2))], [(q12, .inl (G.2.1 0, 8, .inl (upd (upd (upd (upd (upd (upd (upd (fun _ => 0) 0 0) 1 1) 2 (((mz (ci i)).1) 0)) 3 (((mz (ci i)).1) 1)) 4 (((mz (ci i)).1) 2)) 5 (((mz (ci i)).1) 3)) 6 (((mz (ci i)).1) 4))))]]) rfl ?_
      refine V_open (i := ci i) (hK.2.2.1 i hi) ?_
      refine V_calli hC (V_runV hC (rest := [.int 7, .ref q12, .ref q12]) [] (c_X9_melt l G (Q (ci i)) (mz (ci i))) [0] rfl (by decide) q1424 q1346 q1347 q57 q1348 ⟨by decide, by decide, rfl⟩ ⟨by decide, by decide⟩ (ci := 10) rfl (mem_at 0 0 rfl rfl) rfl (Nat.le_of_ble_eq_true rfl) ⟨by decide, by decide⟩ dX11_cellNow_90) (is := [0]) rfl [1, 2, 3, 4, 5, 6, 7] (rs := [famX NC (ci i) (fun ι => mcP G (Q ι) (mz ι)), [(M 0, .inr (12, [.int th, .ref (M 1), .ref (M 2), .ref aw, .ref al, .ref (M 3), .ref (M 4), .ref (M 5), .ref (M 6), .ref y, .int (nI nb), .int (nI ny), .int du, .int mny, .int cl, .int (nI fd), .int ws]))], [(y, .inr (11, [.ref ce, .ref ha, .ref wa, .int (S.1 0), .int (S.1 1), .int (S.1 3), .int (S.1 2), .int (S.1 4), .int (S.1 5), .int (S.1 6)]))], [(ce, .inl (G.2.1 7, 5, .inr (.inr (.inr (.inr (refQ 5 Q ci))))))], [(ha, .inl (G.2.1 1, 5, .inl (hsF S.2.2.1)))], [(wa, .inl (G.2.1 0, 5, .inl S.2.2.2.2.2))], [(q12, .inl (G.2.1 0, 8, .inl (upd (upd (upd (upd (upd (upd (upd (fun _ => 0) 0 0) 1 1) 2 (((mz (ci i)).1) 0)) 3 (((mz (ci i)).1) 1)) 4 (((mz (ci i)).1) 2)) 5 (((mz (ci i)).1) 3)) 6 (((mz (ci i)).1) 4))))]]) rfl (by decide) (by decide) ?_
      rintro _ _ ⟨rfl, rfl⟩
      refine V_close (i := ci i) (g' := fun ι => mcP G (Q ι) (mz ι)) (hK.2.2.1 i hi) (rfl) (fun _ _ _ => rfl) ?_
      refine V_iast hC dX11_cellNow_93 6 0 rfl rfl (vin (by decide)) (z := 7) (by decide) (ps' := [famW NC (fun ι => mcP G (Q ι) (mz ι)), [(M 0, .inr (12, [.int th, .ref (M 1), .ref (M 2), .ref aw, .ref al, .ref (M 3), .ref (M 4), .ref (M 5), .ref (M 6), .ref y, .int (nI nb), .int (nI ny), .int du, .int mny, .int cl, .int (nI fd), .int ws]))], [(y, .inr (11, [.ref ce, .ref ha, .ref wa, .int (S.1 0), .int (S.1 1), .int (S.1 3), .int (S.1 2), .int (S.1 4), .int (S.1 5), .int (S.1 6)]))], [(ce, .inl (G.2.1 7, 5, .inr (.inr (.inr (.inr (refQ 5 Q ci))))))], [(ha, .inl (G.2.1 1, 5, .inl (hsF S.2.2.1)))], [(wa, .inl (G.2.1 0, 5, .inl S.2.2.2.2.2))], [(q12, .inl (G.2.1 0, 8, .inl (upd (upd (upd (upd (upd (upd (upd (upd (fun _ => 0) 0 0) 1 1) 2 (((mz (ci i)).1) 0)) 3 (((mz (ci i)).1) 1)) 4 (((mz (ci i)).1) 2)) 5 (((mz (ci i)).1) 3)) 6 (((mz (ci i)).1) 4)) 7 ((mz (ci i)).2.1 2 + (mz (ci i)).2.1 3))))]]) rfl ?_
      refine V_astore hC dX11_cellNow_94 (L' := [(4, .ref q12), (3, .ref ((Q (ci i)) 0)), (0, .ref (M 0)), (1, .int (nI i)), (2, .int (nI 6))]) (by decide) rfl ?_
      refine V_aload hC dX11_cellNow_96 0 rfl ?_
      refine V_iload_n hC dX11_cellNow_98 4 rfl ?_
      refine V_iald hC dX11_cellNow_99 (mem_at 6 0 rfl rfl) (vin (by decide)) (x := 6) (by decide) ?_
      exact V_iret hC hQ hr [1, 2, 3, 4, 5, 0] (u := [[(M 0, .inr (12, [.int th, .ref (M 1), .ref (M 2), .ref aw, .ref al, .ref (M 3), .ref (M 4), .ref (M 5), .ref (M 6), .ref y, .int (nI nb), .int (nI ny), .int du, .int mny, .int cl, .int (nI fd), .int ws]))], [(y, .inr (11, [.ref ce, .ref ha, .ref wa, .int (S.1 0), .int (S.1 1), .int (S.1 3), .int (S.1 2), .int (S.1 4), .int (S.1 5), .int (S.1 6)]))], [(ce, .inl (G.2.1 7, 5, .inr (.inr (.inr (.inr (refQ 5 Q ci))))))], [(ha, .inl (G.2.1 1, 5, .inl (hsF S.2.2.1)))], [(wa, .inl (G.2.1 0, 5, .inl S.2.2.2.2.2))], famW NC (fun ι => mcP G (Q ι) (mz ι))]) (by decide) rfl (by decide) (by decide) dX11_cellNow_100 (⟨qCell_eq (w := 6) (hK.2.2.2.1 i hi hp).2.2.2.1 hp (by decide) (by decide), rfl⟩)
    · have hp : (S.2.2.1 i).1 0 = 0 := h11
      refine V_iconst hC dX11_cellNow_26 (v := 0) (by decide) ?_
      exact V_iret hC hQ hr [0, 1, 2, 3, 4, 5] (u := [[(M 0, .inr (12, [.int th, .ref (M 1), .ref (M 2), .ref aw, .ref al, .ref (M 3), .ref (M 4), .ref (M 5), .ref (M 6), .ref y, .int (nI nb), .int (nI ny), .int du, .int mny, .int cl, .int (nI fd), .int ws]))], [(y, .inr (11, [.ref ce, .ref ha, .ref wa, .int (S.1 0), .int (S.1 1), .int (S.1 3), .int (S.1 2), .int (S.1 4), .int (S.1 5), .int (S.1 6)]))], [(ce, .inl (G.2.1 7, 5, .inr (.inr (.inr (.inr (refQ 5 Q ci))))))], [(ha, .inl (G.2.1 1, 5, .inl (hsF S.2.2.1)))], [(wa, .inl (G.2.1 0, 5, .inl S.2.2.2.2.2))], famW NC (fun ι => mcP G (Q ι) (mz ι))]) (by decide) rfl (by decide) (by decide) dX11_cellNow_27 (⟨by first | rfl | exact (if_pos hp).symm, rfl⟩)
  · refine V_iload_n hC dX11_cellNow_0 2 rfl ?_
    refine V_if_neT hC dX11_cellNow_1 (tgt := 14) (by decide) (by decide) ?_
    refine V_aload_n hC dX11_cellNow_14 0 rfl ?_
    refine V_get hC dX11_cellNow_15 inAX11 (mem_at 0 0 rfl rfl) rfl 9 (by decide) q1087 rfl (v := .ref y) rfl ?_
    refine V_get hC dX11_cellNow_18 inAX10 (mem_at 1 0 rfl rfl) rfl 1 (by decide) q1040 rfl (v := .ref ha) rfl ?_
    refine V_iload_n hC dX11_cellNow_21 1 rfl ?_
    refine V_zald hC dX11_cellNow_22 (mem_at 3 0 rfl rfl) (vp_in_nI (by omega) (by omega)) (x := i) (nI_clamp (by omega)) ?_
    refine V_if_ne hC dX11_cellNow_23 (tgt := 28) (by decide) (fun h13 => ?_) (fun h13 => ?_)
    · have hp : ¬ (S.2.2.1 i).1 0 = 0 := h13
      refine V_aload_n hC dX11_cellNow_28 0 rfl ?_
      refine V_get hC dX11_cellNow_29 inAX11 (mem_at 0 0 rfl rfl) rfl 9 (by decide) q1087 rfl (v := .ref y) rfl ?_
      refine V_get hC dX11_cellNow_32 inAX10 (mem_at 1 0 rfl rfl) rfl 0 (by decide) q1038 rfl (v := .ref ce) rfl ?_
      refine V_iload_n hC dX11_cellNow_35 1 rfl ?_
      refine V_aald hC dX11_cellNow_36 7 rfl (mem_at 2 0 rfl rfl) (vp_in_nI (by omega) (by omega)) (x := i) (nI_clamp (by omega)) (b := (Q (ci i)) 0) (refQ_at (hi)) ?_
      refine V_astore_n hC dX11_cellNow_37 (L' := [(3, .ref ((Q (ci i)) 0)), (0, .ref (M 0)), (1, .int (nI i)), (2, .int (nI 7))]) (by decide) rfl ?_
      refine V_bipush hC dX11_cellNow_38 (v := 8) (by decide) ?_
      refine V_newa_i hC q103 (N := 8) (by decide) (by decide) (by decide) (by decide) (by decide) dX11_cellNow_40 (fun q14 => ?_)
      refine V_dup hC dX11_cellNow_42 rfl ?_
      refine V_iconst hC dX11_cellNow_43 (v := 0) (by decide) ?_
      refine V_iconst hC dX11_cellNow_44 (v := 0) (by decide) ?_
      refine V_iast hC dX11_cellNow_45 6 0 rfl rfl (vin (by decide)) (z := 0) (by decide) (ps' := [[(M 0, .inr (12, [.int th, .ref (M 1), .ref (M 2), .ref aw, .ref al, .ref (M 3), .ref (M 4), .ref (M 5), .ref (M 6), .ref y, .int (nI nb), .int (nI ny), .int du, .int mny, .int cl, .int (nI fd), .int ws]))], [(y, .inr (11, [.ref ce, .ref ha, .ref wa, .int (S.1 0), .int (S.1 1), .int (S.1 3), .int (S.1 2), .int (S.1 4), .int (S.1 5), .int (S.1 6)]))], [(ce, .inl (G.2.1 7, 5, .inr (.inr (.inr (.inr (refQ 5 Q ci))))))], [(ha, .inl (G.2.1 1, 5, .inl (hsF S.2.2.1)))], [(wa, .inl (G.2.1 0, 5, .inl S.2.2.2.2.2))], famW NC (fun ι => mcP G (Q ι) (mz ι)), [(q14, .inl (G.2.1 0, 8, .inl (upd (fun _ => 0) 0 0)))]]) rfl ?_
      refine V_dup hC dX11_cellNow_46 rfl ?_
      refine V_iconst hC dX11_cellNow_47 (v := 1) (by decide) ?_
      refine V_iconst hC dX11_cellNow_48 (v := 1) (by decide) ?_
      refine V_iast hC dX11_cellNow_49 6 0 rfl rfl (vin (by decide)) (z := 1) (by decide) (ps' := [[(M 0, .inr (12, [.int th, .ref (M 1), .ref (M 2), .ref aw, .ref al, .ref (M 3), .ref (M 4), .ref (M 5), .ref (M 6), .ref y, .int (nI nb), .int (nI ny), .int du, .int mny, .int cl, .int (nI fd), .int ws]))], [(y, .inr (11, [.ref ce, .ref ha, .ref wa, .int (S.1 0), .int (S.1 1), .int (S.1 3), .int (S.1 2), .int (S.1 4), .int (S.1 5), .int (S.1 6)]))], [(ce, .inl (G.2.1 7, 5, .inr (.inr (.inr (.inr (refQ 5 Q ci))))))], [(ha, .inl (G.2.1 1, 5, .inl (hsF S.2.2.1)))], [(wa, .inl (G.2.1 0, 5, .inl S.2.2.2.2.2))], famW NC (fun ι => mcP G (Q ι) (mz ι)), [(q14, .inl (G.2.1 0, 8, .inl (upd (upd (fun _ => 0) 0 0) 1 1)))]]) rfl ?_
      refine V_dup hC dX11_cellNow_50 rfl ?_
      refine V_iconst hC dX11_cellNow_51 (v := 2) (by decide) ?_
      refine V_aload_n hC dX11_cellNow_52 0 rfl ?_
      refine V_get hC dX11_cellNow_53 inAX9 (mem_fam 5 0 rfl (ci i) (hK.2.2.1 i hi) rfl) rfl 2 (by decide) q992 rfl (v := .int (((mz (ci i)).1) 0)) rfl ?_
      refine V_iast hC dX11_cellNow_56 6 0 rfl rfl (vin (by decide)) (z := 2) (by decide) (ps' := [[(M 0, .inr (12, [.int th, .ref (M 1), .ref (M 2), .ref aw, .ref al, .ref (M 3), .ref (M 4), .ref (M 5), .ref (M 6), .ref y, .int (nI nb), .int (nI ny), .int du, .int mny, .int cl, .int (nI fd), .int ws]))], [(y, .inr (11, [.ref ce, .ref ha, .ref wa, .int (S.1 0), .int (S.1 1), .int (S.1 3), .int (S.1 2), .int (S.1 4), .int (S.1 5), .int (S.1 6)]))], [(ce, .inl (G.2.1 7, 5, .inr (.inr (.inr (.inr (refQ 5 Q ci))))))], [(ha, .inl (G.2.1 1, 5, .inl (hsF S.2.2.1)))], [(wa, .inl (G.2.1 0, 5, .inl S.2.2.2.2.2))], famW NC (fun ι => mcP G (Q ι) (mz ι)), [(q14, .inl (G.2.1 0, 8, .inl (upd (upd (upd (fun _ => 0) 0 0) 1 1) 2 (((mz (ci i)).1) 0))))]]) rfl ?_
      refine V_dup hC dX11_cellNow_57 rfl ?_
      refine V_iconst hC dX11_cellNow_58 (v := 3) (by decide) ?_
      refine V_aload_n hC dX11_cellNow_59 0 rfl ?_
      refine V_get hC dX11_cellNow_60 inAX9 (mem_fam 5 0 rfl (ci i) (hK.2.2.1 i hi) rfl) rfl 3 (by decide) q994 rfl (v := .int (((mz (ci i)).1) 1)) rfl ?_
      refine V_iast hC dX11_cellNow_63 6 0 rfl rfl (vin (by decide)) (z := 3) (by decide) (ps' := [[(M 0, .inr (12, [.int th, .ref (M 1), .ref (M 2), .ref aw, .ref al, .ref (M 3), .ref (M 4), .ref (M 5), .ref (M 6), .ref y, .int (nI nb), .int (nI ny), .int du, .int mny, .int cl, .int (nI fd), .int ws]))], [(y, .inr (11, [.ref ce, .ref ha, .ref wa, .int (S.1 0), .int (S.1 1), .int (S.1 3), .int (S.1 2), .int (S.1 4), .int (S.1 5), .int (S.1 6)]))], [(ce, .inl (G.2.1 7, 5, .inr (.inr (.inr (.inr (refQ 5 Q ci))))))], [(ha, .inl (G.2.1 1, 5, .inl (hsF S.2.2.1)))], [(wa, .inl (G.2.1 0, 5, .inl S.2.2.2.2.2))], famW NC (fun ι => mcP G (Q ι) (mz ι)), [(q14, .inl (G.2.1 0, 8, .inl (upd (upd (upd (upd (fun _ => 0) 0 0) 1 1) 2 (((mz (ci i)).1) 0)) 3 (((mz (ci i)).1) 1))))]]) rfl ?_
      refine V_dup hC dX11_cellNow_64 rfl ?_
      refine V_iconst hC dX11_cellNow_65 (v := 4) (by decide) ?_
      refine V_aload_n hC dX11_cellNow_66 0 rfl ?_
      refine V_get hC dX11_cellNow_67 inAX9 (mem_fam 5 0 rfl (ci i) (hK.2.2.1 i hi) rfl) rfl 4 (by decide) q996 rfl (v := .int (((mz (ci i)).1) 2)) rfl ?_
      refine V_iast hC dX11_cellNow_70 6 0 rfl rfl (vin (by decide)) (z := 4) (by decide) (ps' := [[(M 0, .inr (12, [.int th, .ref (M 1), .ref (M 2), .ref aw, .ref al, .ref (M 3), .ref (M 4), .ref (M 5), .ref (M 6), .ref y, .int (nI nb), .int (nI ny), .int du, .int mny, .int cl, .int (nI fd), .int ws]))], [(y, .inr (11, [.ref ce, .ref ha, .ref wa, .int (S.1 0), .int (S.1 1), .int (S.1 3), .int (S.1 2), .int (S.1 4), .int (S.1 5), .int (S.1 6)]))], [(ce, .inl (G.2.1 7, 5, .inr (.inr (.inr (.inr (refQ 5 Q ci))))))], [(ha, .inl (G.2.1 1, 5, .inl (hsF S.2.2.1)))], [(wa, .inl (G.2.1 0, 5, .inl S.2.2.2.2.2))], famW NC (fun ι => mcP G (Q ι) (mz ι)), [(q14, .inl (G.2.1 0, 8, .inl (upd (upd (upd (upd (upd (fun _ => 0) 0 0) 1 1) 2 (((mz (ci i)).1) 0)) 3 (((mz (ci i)).1) 1)) 4 (((mz (ci i)).1) 2))))]]) rfl ?_
      refine V_dup hC dX11_cellNow_71 rfl ?_
      refine V_iconst hC dX11_cellNow_72 (v := 5) (by decide) ?_
      refine V_aload_n hC dX11_cellNow_73 0 rfl ?_
      refine V_get hC dX11_cellNow_74 inAX9 (mem_fam 5 0 rfl (ci i) (hK.2.2.1 i hi) rfl) rfl 5 (by decide) q998 rfl (v := .int (((mz (ci i)).1) 3)) rfl ?_
      refine V_iast hC dX11_cellNow_77 6 0 rfl rfl (vin (by decide)) (z := 5) (by decide) (ps' := [[(M 0, .inr (12, [.int th, .ref (M 1), .ref (M 2), .ref aw, .ref al, .ref (M 3), .ref (M 4), .ref (M 5), .ref (M 6), .ref y, .int (nI nb), .int (nI ny), .int du, .int mny, .int cl, .int (nI fd), .int ws]))], [(y, .inr (11, [.ref ce, .ref ha, .ref wa, .int (S.1 0), .int (S.1 1), .int (S.1 3), .int (S.1 2), .int (S.1 4), .int (S.1 5), .int (S.1 6)]))], [(ce, .inl (G.2.1 7, 5, .inr (.inr (.inr (.inr (refQ 5 Q ci))))))], [(ha, .inl (G.2.1 1, 5, .inl (hsF S.2.2.1)))], [(wa, .inl (G.2.1 0, 5, .inl S.2.2.2.2.2))], famW NC (fun ι => mcP G (Q ι) (mz ι)), [(q14, .inl (G.2.1 0, 8, .inl (upd (upd (upd (upd (upd (upd (fun _ => 0) 0 0) 1 1) 2 (((mz (ci i)).1) 0)) 3 (((mz (ci i)).1) 1)) 4 (((mz (ci i)).1) 2)) 5 (((mz (ci i)).1) 3))))]]) rfl ?_
      refine V_dup hC dX11_cellNow_78 rfl ?_
      refine V_bipush hC dX11_cellNow_79 (v := 6) (by decide) ?_
      refine V_aload_n hC dX11_cellNow_81 0 rfl ?_
      refine V_get hC dX11_cellNow_82 inAX9 (mem_fam 5 0 rfl (ci i) (hK.2.2.1 i hi) rfl) rfl 6 (by decide) q1000 rfl (v := .int (((mz (ci i)).1) 4)) rfl ?_
      refine V_iast hC dX11_cellNow_85 6 0 rfl rfl (vin (by decide)) (z := 6) (by decide) (ps' := [[(M 0, .inr (12, [.int th, .ref (M 1), .ref (M 2), .ref aw, .ref al, .ref (M 3), .ref (M 4), .ref (M 5), .ref (M 6), .ref y, .int (nI nb), .int (nI ny), .int du, .int mny, .int cl, .int (nI fd), .int ws]))], [(y, .inr (11, [.ref ce, .ref ha, .ref wa, .int (S.1 0), .int (S.1 1), .int (S.1 3), .int (S.1 2), .int (S.1 4), .int (S.1 5), .int (S.1 6)]))], [(ce, .inl (G.2.1 7, 5, .inr (.inr (.inr (.inr (refQ 5 Q ci))))))], [(ha, .inl (G.2.1 1, 5, .inl (hsF S.2.2.1)))], [(wa, .inl (G.2.1 0, 5, .inl S.2.2.2.2.2))], famW NC (fun ι => mcP G (Q ι) (mz ι)), [(q14, .inl (G.2.1 0, 8, .inl (upd (upd (upd (upd (upd (upd (upd (fun _ => 0) 0 0) 1 1) 2 (((mz (ci i)).1) 0)) 3 (((mz (ci i)).1) 1)) 4 (((mz (ci i)).1) 2)) 5 (((mz (ci i)).1) 3)) 6 (((mz (ci i)).1) 4))))]]) rfl ?_
      refine V_dup hC dX11_cellNow_86 rfl ?_
      refine V_bipush hC dX11_cellNow_87 (v := 7) (by decide) ?_
      refine V_aload_n hC dX11_cellNow_89 0 rfl ?_
      refine V_sub [5, 0, 1, 2, 3, 4, 6] (by decide) (u := [famW NC (fun ι => mcP G (Q ι) (mz ι)), [(M 0, .inr (12, [.int th, .ref (M 1), .ref (M 2), .ref aw, .ref al, .ref (M 3), .ref (M 4), .ref (M 5), .ref (M 6), .ref y, .int (nI nb), .int (nI ny), .int du, .int mny, .int cl, .int (nI fd), .int ws]))], [(y, .inr (11, [.ref ce, .ref ha, .ref wa, .int (S.1 0), .int (S.1 1), .int (S.1 3), .int (S.1 2), .int (S.1 4), .int (S.1 5), .int (S.1 6)]))], [(ce, .inl (G.2.1 7, 5, .inr (.inr (.inr (.inr (refQ 5 Q ci))))))], [(ha, .inl (G.2.1 1, 5, .inl (hsF S.2.2.1)))], [(wa, .inl (G.2.1 0, 5, .inl S.2.2.2.2.2))], [(q14, .inl (G.2.1 0, 8, .inl (upd (upd (upd (upd (upd (upd (upd (fun _ => 0) 0 0) 1 1) 2 (((mz (ci i)).1) 0)) 3 (((mz (ci i)).1) 1)) 4 (((mz (ci i)).1) 2)) 5 (((mz (ci i)).1) 3)) 6 (((mz (ci i)).1) 4))))]]) rfl ?_
      refine V_open (i := ci i) (hK.2.2.1 i hi) ?_
      refine V_calli hC (V_runV hC (rest := [.int 7, .ref q14, .ref q14]) [] (c_X9_melt l G (Q (ci i)) (mz (ci i))) [0] rfl (by decide) q1424 q1346 q1347 q57 q1348 ⟨by decide, by decide, rfl⟩ ⟨by decide, by decide⟩ (ci := 10) rfl (mem_at 0 0 rfl rfl) rfl (Nat.le_of_ble_eq_true rfl) ⟨by decide, by decide⟩ dX11_cellNow_90) (is := [0]) rfl [1, 2, 3, 4, 5, 6, 7] (rs := [famX NC (ci i) (fun ι => mcP G (Q ι) (mz ι)), [(M 0, .inr (12, [.int th, .ref (M 1), .ref (M 2), .ref aw, .ref al, .ref (M 3), .ref (M 4), .ref (M 5), .ref (M 6), .ref y, .int (nI nb), .int (nI ny), .int du, .int mny, .int cl, .int (nI fd), .int ws]))], [(y, .inr (11, [.ref ce, .ref ha, .ref wa, .int (S.1 0), .int (S.1 1), .int (S.1 3), .int (S.1 2), .int (S.1 4), .int (S.1 5), .int (S.1 6)]))], [(ce, .inl (G.2.1 7, 5, .inr (.inr (.inr (.inr (refQ 5 Q ci))))))], [(ha, .inl (G.2.1 1, 5, .inl (hsF S.2.2.1)))], [(wa, .inl (G.2.1 0, 5, .inl S.2.2.2.2.2))], [(q14, .inl (G.2.1 0, 8, .inl (upd (upd (upd (upd (upd (upd (upd (fun _ => 0) 0 0) 1 1) 2 (((mz (ci i)).1) 0)) 3 (((mz (ci i)).1) 1)) 4 (((mz (ci i)).1) 2)) 5 (((mz (ci i)).1) 3)) 6 (((mz (ci i)).1) 4))))]]) rfl (by decide) (by decide) ?_
      rintro _ _ ⟨rfl, rfl⟩
      refine V_close (i := ci i) (g' := fun ι => mcP G (Q ι) (mz ι)) (hK.2.2.1 i hi) (rfl) (fun _ _ _ => rfl) ?_
      refine V_iast hC dX11_cellNow_93 6 0 rfl rfl (vin (by decide)) (z := 7) (by decide) (ps' := [famW NC (fun ι => mcP G (Q ι) (mz ι)), [(M 0, .inr (12, [.int th, .ref (M 1), .ref (M 2), .ref aw, .ref al, .ref (M 3), .ref (M 4), .ref (M 5), .ref (M 6), .ref y, .int (nI nb), .int (nI ny), .int du, .int mny, .int cl, .int (nI fd), .int ws]))], [(y, .inr (11, [.ref ce, .ref ha, .ref wa, .int (S.1 0), .int (S.1 1), .int (S.1 3), .int (S.1 2), .int (S.1 4), .int (S.1 5), .int (S.1 6)]))], [(ce, .inl (G.2.1 7, 5, .inr (.inr (.inr (.inr (refQ 5 Q ci))))))], [(ha, .inl (G.2.1 1, 5, .inl (hsF S.2.2.1)))], [(wa, .inl (G.2.1 0, 5, .inl S.2.2.2.2.2))], [(q14, .inl (G.2.1 0, 8, .inl (upd (upd (upd (upd (upd (upd (upd (upd (fun _ => 0) 0 0) 1 1) 2 (((mz (ci i)).1) 0)) 3 (((mz (ci i)).1) 1)) 4 (((mz (ci i)).1) 2)) 5 (((mz (ci i)).1) 3)) 6 (((mz (ci i)).1) 4)) 7 ((mz (ci i)).2.1 2 + (mz (ci i)).2.1 3))))]]) rfl ?_
      refine V_astore hC dX11_cellNow_94 (L' := [(4, .ref q14), (3, .ref ((Q (ci i)) 0)), (0, .ref (M 0)), (1, .int (nI i)), (2, .int (nI 7))]) (by decide) rfl ?_
      refine V_aload hC dX11_cellNow_96 0 rfl ?_
      refine V_iload_n hC dX11_cellNow_98 4 rfl ?_
      refine V_iald hC dX11_cellNow_99 (mem_at 6 0 rfl rfl) (vin (by decide)) (x := 7) (by decide) ?_
      exact V_iret hC hQ hr [1, 2, 3, 4, 5, 0] (u := [[(M 0, .inr (12, [.int th, .ref (M 1), .ref (M 2), .ref aw, .ref al, .ref (M 3), .ref (M 4), .ref (M 5), .ref (M 6), .ref y, .int (nI nb), .int (nI ny), .int du, .int mny, .int cl, .int (nI fd), .int ws]))], [(y, .inr (11, [.ref ce, .ref ha, .ref wa, .int (S.1 0), .int (S.1 1), .int (S.1 3), .int (S.1 2), .int (S.1 4), .int (S.1 5), .int (S.1 6)]))], [(ce, .inl (G.2.1 7, 5, .inr (.inr (.inr (.inr (refQ 5 Q ci))))))], [(ha, .inl (G.2.1 1, 5, .inl (hsF S.2.2.1)))], [(wa, .inl (G.2.1 0, 5, .inl S.2.2.2.2.2))], famW NC (fun ι => mcP G (Q ι) (mz ι))]) (by decide) rfl (by decide) (by decide) dX11_cellNow_100 (⟨qCell_eq (w := 7) (hK.2.2.2.1 i hi hp).2.2.2.1 hp (by decide) (by decide), rfl⟩)
    · have hp : (S.2.2.1 i).1 0 = 0 := h13
      refine V_iconst hC dX11_cellNow_26 (v := 0) (by decide) ?_
      exact V_iret hC hQ hr [0, 1, 2, 3, 4, 5] (u := [[(M 0, .inr (12, [.int th, .ref (M 1), .ref (M 2), .ref aw, .ref al, .ref (M 3), .ref (M 4), .ref (M 5), .ref (M 6), .ref y, .int (nI nb), .int (nI ny), .int du, .int mny, .int cl, .int (nI fd), .int ws]))], [(y, .inr (11, [.ref ce, .ref ha, .ref wa, .int (S.1 0), .int (S.1 1), .int (S.1 3), .int (S.1 2), .int (S.1 4), .int (S.1 5), .int (S.1 6)]))], [(ce, .inl (G.2.1 7, 5, .inr (.inr (.inr (.inr (refQ 5 Q ci))))))], [(ha, .inl (G.2.1 1, 5, .inl (hsF S.2.2.1)))], [(wa, .inl (G.2.1 0, 5, .inl S.2.2.2.2.2))], famW NC (fun ι => mcP G (Q ι) (mz ι))]) (by decide) rfl (by decide) (by decide) dX11_cellNow_27 (⟨by first | rfl | exact (if_pos hp).symm, rfl⟩)
set_option maxHeartbeats 4000000 in
set_option maxRecDepth 100000 in
/-- ClinkerWorksModel.rowNow -/
theorem c_X11_rowNow (l : Launch) (G : VG) (M : Nat → Nat) (th du mny cl ws : Int32) (nb ny fd aw al y : Nat) (rR : Nat → Nat) (rm : Nat → Nat → Int32) (ir : Nat → Int32) (i k : Nat) (z : SV) (hi : i < 2) (hk : k < 2 ^ 31) (hz : z.1 ≤ 12) (hir : ir i = nI z.1) (hrm : ∀ j, j < z.1 → rm i j = z.2.2 j) : Mi l G yX11_rowNow cX11_rowNow 3 .int 0 0 0 0 [.ref (M 0), .int (nI i), .int (nI k)] [[(M 0, .inr (12, [.int th, .ref (M 1), .ref (M 2), .ref aw, .ref al, .ref (M 3), .ref (M 4), .ref (M 5), .ref (M 6), .ref y, .int (nI nb), .int (nI ny), .int du, .int mny, .int cl, .int (nI fd), .int ws]))], [(M 3, .inl (G.2.1 9, 2, .inr (.inr (.inr (.inr (rfN 2 rR))))))], famW 2 (fun ι => iaP G (rR ι) 12 (rm ι)), [(M 4, .inl (G.2.1 0, 2, .inl ir))]] (fun r u => r = siAt z.2.2 z.1 (nI k) ∧ u = [[(M 0, .inr (12, [.int th, .ref (M 1), .ref (M 2), .ref aw, .ref al, .ref (M 3), .ref (M 4), .ref (M 5), .ref (M 6), .ref y, .int (nI nb), .int (nI ny), .int du, .int mny, .int cl, .int (nI fd), .int ws]))], [(M 3, .inl (G.2.1 9, 2, .inr (.inr (.inr (.inr (rfN 2 rR))))))], famW 2 (fun ι => iaP G (rR ι) 12 (rm ι)), [(M 4, .inl (G.2.1 0, 2, .inl ir))]]) := by
  refine Mi_of (by decide) (Nat.le_of_ble_eq_true rfl) (fun pP eE sS mM aA bB tT cC AA QQ hC hr hnm hQ => ?_)
  refine V_iload_n hC dX11_rowNow_0 2 rfl ?_
  refine V_aload_n hC dX11_rowNow_1 0 rfl ?_
  refine V_get hC dX11_rowNow_2 inAX11 (mem_at 0 0 rfl rfl) rfl 6 (by decide) q1084 rfl (v := .ref (M 4)) rfl ?_
  refine V_iload_n hC dX11_rowNow_5 1 rfl ?_
  refine V_iald hC dX11_rowNow_6 (mem_at 3 0 rfl rfl) (vp_in_nI (by omega) (by omega)) (x := i) (nI_clamp (by omega)) ?_
  refine V_eqi (y := nI z.1) (hir) ?_
  refine V_icmp_ge hC dX11_rowNow_7 (tgt := 21) (by decide) (fun h1 => ?_) (fun h1 => ?_)
  · have hge : z.1 ≤ k := nle h1
    refine V_iconst hC dX11_rowNow_21 (v := (-1)) (by decide) ?_
    exact V_iret hC hQ hr [0, 1, 2, 3] (u := [[(M 0, .inr (12, [.int th, .ref (M 1), .ref (M 2), .ref aw, .ref al, .ref (M 3), .ref (M 4), .ref (M 5), .ref (M 6), .ref y, .int (nI nb), .int (nI ny), .int du, .int mny, .int cl, .int (nI fd), .int ws]))], [(M 3, .inl (G.2.1 9, 2, .inr (.inr (.inr (.inr (rfN 2 rR))))))], famW 2 (fun ι => iaP G (rR ι) 12 (rm ι)), [(M 4, .inl (G.2.1 0, 2, .inl ir))]]) (by decide) rfl (by decide) (by decide) dX11_rowNow_22 (⟨by unfold siAt; first | rw [ixB_in hlt, if_neg (by decide), nI_clamp hk] | (rw [if_pos]; unfold ixB; rw [if_neg (nI_pos hk), if_pos (nI_le hge hk)]), rfl⟩)
  · have hlt : k < z.1 := nnle h1
    refine V_aload_n hC dX11_rowNow_10 0 rfl ?_
    refine V_get hC dX11_rowNow_11 inAX11 (mem_at 0 0 rfl rfl) rfl 5 (by decide) q1083 rfl (v := .ref (M 3)) rfl ?_
    refine V_iload_n hC dX11_rowNow_14 1 rfl ?_
    refine V_aaldI hC dX11_rowNow_15 (mem_at 1 0 rfl rfl) (vp_in_nI (by omega) (by omega)) (x := i) (nI_clamp (by omega)) (b := rR i) (rfN_at (hi)) ?_
    refine V_iload_n hC dX11_rowNow_16 2 rfl ?_
    refine V_iald hC dX11_rowNow_17 (mem_fam 2 0 rfl i (hi) rfl) (vp_in_nI (by omega) (by omega)) (x := k) (nI_clamp (by omega)) ?_
    refine V_eqi (y := z.2.2 k) (hrm k hlt) ?_
    refine V_goto hC dX11_rowNow_18 (tgt := 22) (by decide) ?_
    exact V_iret hC hQ hr [0, 1, 2, 3] (u := [[(M 0, .inr (12, [.int th, .ref (M 1), .ref (M 2), .ref aw, .ref al, .ref (M 3), .ref (M 4), .ref (M 5), .ref (M 6), .ref y, .int (nI nb), .int (nI ny), .int du, .int mny, .int cl, .int (nI fd), .int ws]))], [(M 3, .inl (G.2.1 9, 2, .inr (.inr (.inr (.inr (rfN 2 rR))))))], famW 2 (fun ι => iaP G (rR ι) 12 (rm ι)), [(M 4, .inl (G.2.1 0, 2, .inl ir))]]) (by decide) rfl (by decide) (by decide) dX11_rowNow_22 (⟨by unfold siAt; first | rw [ixB_in hlt, if_neg (by decide), nI_clamp hk] | (rw [if_pos]; unfold ixB; rw [if_neg (nI_pos hk), if_pos (nI_le hge hk)]), rfl⟩)
