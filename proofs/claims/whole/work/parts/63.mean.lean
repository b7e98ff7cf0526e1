/-! ===== a quotient of whole numbers is a number ===== -/
section FP1
def okD : Jvm.FP.Core.Datum → Prop
  | .nan => False
  | .inf _ => True
  | .fin _ k q => k < 2 ^ 53 ∧ q ≤ 971
theorem b64_p : Jvm.FP.Core.b64.p = 53 := rfl
theorem b64_tails : Jvm.FP.Core.b64.tails = 2 ^ 52 := rfl
theorem b64_exps : Jvm.FP.Core.b64.exps = 2048 := rfl
theorem b64_qmin : Jvm.FP.Core.b64.qmin = -1074 := by decide
theorem b64_qmax : Jvm.FP.Core.b64.qmax = 971 := by decide
theorem okD_bound {s : Bool} {k : Nat} {q : Int} (h : k < 2 ^ 53) : okD (Jvm.FP.Core.bound Jvm.FP.Core.b64 s k q) := by
  unfold Jvm.FP.Core.bound
  split
  · rename_i hq
    rw [b64_qmax] at hq
    exact ⟨h, hq⟩
  · exact trivial
theorem okD_round {s : Bool} {A B : Nat} {e : Int} : okD (Jvm.FP.Core.roundRatio Jvm.FP.Core.b64 s A B e) := by
  unfold Jvm.FP.Core.roundRatio
  split
  · rw [b64_qmin]
    exact ⟨by decide, by decide⟩
  · unfold Jvm.FP.Core.roundAt Jvm.FP.Core.settle
    split
    · rename_i h1 h2
      rw [b64_p] at h2
      exact okD_bound h2
    · rw [b64_tails]
      exact okD_bound (by decide)
/-- what is written of it -/
theorem okD_enc {d : Jvm.FP.Core.Datum} (h : okD d) : ∃ s e t : Nat, Jvm.FP.Core.encode Jvm.FP.Core.b64 d = (s * 2048 + e) * 2 ^ 52 + t ∧ s ≤ 1 ∧ e ≤ 2047 ∧ t < 2 ^ 52 ∧ (e = 2047 → t = 0) := by
  have hs : ∀ s : Bool, s.toNat ≤ 1 := fun s => by cases s <;> decide
  cases d with
  | nan => exact h.elim
  | inf s =>
    refine ⟨s.toNat, 2047, 0, ?_, hs s, by decide, by decide, fun _ => rfl⟩
    show Jvm.FP.Core.assemble _ s _ 0 = _
    unfold Jvm.FP.Core.assemble
    rw [b64_exps, b64_tails]
  | fin s k q =>
    obtain ⟨hk, hq⟩ := h
    show ∃ s' e t : Nat, (if k < Jvm.FP.Core.b64.tails then Jvm.FP.Core.assemble Jvm.FP.Core.b64 s 0 k else Jvm.FP.Core.assemble Jvm.FP.Core.b64 s ((q - Jvm.FP.Core.b64.qmin).toNat + 1) (k - Jvm.FP.Core.b64.tails)) = _ ∧ _
    unfold Jvm.FP.Core.assemble
    rw [b64_exps, b64_tails, b64_qmin]
    by_cases hc : k < 2 ^ 52
    · rw [if_pos hc]
      exact ⟨s.toNat, 0, k, rfl, hs s, by decide, hc, fun e => absurd e (by decide)⟩
    · rw [if_neg hc]
      exact ⟨s.toNat, (q - -1074).toNat + 1, k - 2 ^ 52, rfl, hs s, by omega, by omega, fun e => by omega⟩
theorem u64_of {X : Nat} (h : X < 2 ^ 64) : (UInt64.ofNat X).toNat = X := by rw [UInt64.toNat_ofNat', Nat.mod_eq_of_lt h]
theorem okD_n64 {d : Jvm.FP.Core.Datum} (h : okD d) : vf_n64 (UInt64.ofNat (Jvm.FP.Core.encode Jvm.FP.Core.b64 d)) := by
  obtain ⟨s, e, t, hE, hs, he, ht, h0⟩ := okD_enc h
  unfold vf_n64
  have hm : (s * 2048 + e) * 2 ^ 52 + t < 2 ^ 64 := by omega
  have hN : (UInt64.ofNat ((s * 2048 + e) * 2 ^ 52 + t)).toNat = (s * 2048 + e) * 2 ^ 52 + t := u64_of hm
  rw [UInt64.le_iff_toNat_le, UInt64.toNat_and, hE, hN]
  have h1 : (0x7fffffffffffffff : UInt64).toNat = 2 ^ 63 - 1 := by decide
  have h2 : (0x7ff0000000000000 : UInt64).toNat = 2047 * 2 ^ 52 := by decide
  rw [h1, h2, Nat.and_two_pow_sub_one_eq_mod]
  omega
theorem okD_dec {d : Jvm.FP.Core.Datum} (h : okD d) : ¬ Jvm.FP.Core.decode Jvm.FP.Core.b64 (UInt64.ofNat (Jvm.FP.Core.encode Jvm.FP.Core.b64 d)).toNat = .nan := by
  obtain ⟨s, e, t, hE, hs, he, ht, h0⟩ := okD_enc h
  have hm : (s * 2048 + e) * 2 ^ 52 + t < 2 ^ 64 := by omega
  have hN : (UInt64.ofNat ((s * 2048 + e) * 2 ^ 52 + t)).toNat = (s * 2048 + e) * 2 ^ 52 + t := u64_of hm
  rw [hE, hN]
  have hT : Jvm.FP.Core.fieldT Jvm.FP.Core.b64 ((s * 2048 + e) * 2 ^ 52 + t) = t := by
    unfold Jvm.FP.Core.fieldT
    rw [b64_tails]
    omega
  have hX : Jvm.FP.Core.fieldE Jvm.FP.Core.b64 ((s * 2048 + e) * 2 ^ 52 + t) = e := by
    unfold Jvm.FP.Core.fieldE
    rw [b64_tails, b64_exps]
    omega
  unfold Jvm.FP.Core.decode
  rw [hT, hX, b64_exps]
  split
  · rename_i h9
    rw [if_pos (h0 (by omega))]
    exact Jvm.FP.Core.Datum.noConfusion
  · split <;> exact Jvm.FP.Core.Datum.noConfusion
theorem i2d_dec (a : Int32) : ¬ Jvm.FP.Core.decode Jvm.FP.Core.b64 (FP.i2d a).toNat = .nan := okD_dec (d := Jvm.FP.Core.round Jvm.FP.Core.b64 (Jvm.FP.Core.ofInt a.toInt)) okD_round
theorem quo_ok {A : Jvm.FP.Core.Datum} {t : Bool} {k : Nat} {q : Int} (hA : ¬ A = .nan) (hk : ¬ k = 0) : okD (Jvm.FP.Core.quotient Jvm.FP.Core.b64 A (.fin t k q)) := by
  cases A with
  | nan => exact absurd rfl hA
  | inf s => exact trivial
  | fin s n r =>
    show okD (if k = 0 then _ else _)
    rw [if_neg hk]
    exact okD_round
theorem den_ok {m : Nat} (h1 : 1 ≤ m) (h6 : m ≤ 6) : ∃ (t : Bool) (k : Nat) (q : Int), Jvm.FP.Core.decode Jvm.FP.Core.b64 (FP.i2d (nI m)).toNat = .fin t k q ∧ ¬ k = 0 := by
  rcases (show m = 1 ∨ m = 2 ∨ m = 3 ∨ m = 4 ∨ m = 5 ∨ m = 6 by omega) with rfl | rfl | rfl | rfl | rfl | rfl
  · exact ⟨false, 2 ^ 52, -52, by decide, by decide⟩
  · exact ⟨false, 2 ^ 52, -51, by decide, by decide⟩
  · exact ⟨false, 3 * 2 ^ 51, -51, by decide, by decide⟩
  · exact ⟨false, 2 ^ 52, -50, by decide, by decide⟩
  · exact ⟨false, 5 * 2 ^ 50, -50, by decide, by decide⟩
  · exact ⟨false, 6 * 2 ^ 50, -50, by decide, by decide⟩
theorem mean_ok {a : Int32} {m : Nat} (h1 : 1 ≤ m) (h6 : m ≤ 6) : vf_n64 (FP.ddiv (FP.i2d a) (FP.i2d (nI m))) := by
  obtain ⟨t, k, q, e, hk⟩ := den_ok h1 h6
  have h := okD_n64 (quo_ok (t := t) (k := k) (q := q) (i2d_dec a) hk)
  rw [← e] at h
  exact h
end FP1
