/-! ===== the model: selling ===== -/
def skR (nl : Nat) (lz : Nat → LV) : Prop := ∀ j, j < nl → ∃ a : Nat, a ≤ 1000 ∧ (lz j).1 4 = nI a
def rwR (nl : Nat) (z : SV) : Prop := ∀ κ, κ < z.1 → ∃ v, v < nl ∧ z.2.2 κ = nI v
def selR (nl lb : Nat) (li : Nat → Nat) (mz : Nat → MV) (s : SK) (mt : Nat → MV) (ρ : Nat → Int32) : Prop := (∃ a : Nat, a ≤ 999 ∧ s.1 = nI a) ∧ skR nl s.2.2.2 ∧ rwR nl s.2.2.1 ∧ loR nl s.2.2.2 li mt lb ∧ (∀ j, lb ≤ j → mt j = mz j) ∧ ∀ κ, κ < s.2.2.1.1 → ρ κ = s.2.2.1.2.2 κ
theorem va_upI {α : Type} {f : Nat → α} {i : Nat} : va_up f i (f i) = f := by
  funext j
  by_cases e : j = i
  · rw [e, va_up_eq]
  · rw [va_up_ne _ _ e]
theorem upd_I {f : Nat → Int32} {i : Nat} {x : Int32} (h : f i = x) : upd f i x = f := by
  funext j
  by_cases e : j = i
  · rw [e, pk_us, h]
  · rw [pk_un e]
theorem upd_2 {f : Nat → Int32} {i : Nat} {x y : Int32} : upd (upd f i x) i y = upd f i y := by
  funext j
  by_cases e : j = i
  · rw [e, pk_us, pk_us]
  · rw [pk_un e, pk_un e, pk_un e]
theorem siSh_at {f : Nat → Int32} {κ : Nat} : ∀ {n : Nat}, siSh f n κ = if κ < n then f (κ + 1) else f κ
  | 0 => (if_neg (Nat.not_lt_zero _)).symm
  | n + 1 => by
    show upd (siSh f n) n (siSh f n (n + 1)) κ = _
    by_cases e : κ = n
    · rw [e, pk_us, siSh_at, if_neg (by omega), if_pos (by omega)]
    · rw [pk_un e, siSh_at]
      by_cases h : κ < n
      · rw [if_pos h, if_pos (by omega)]
      · rw [if_neg h, if_neg (by omega)]
def mvK (k : Int32) (z : MV) : MV := (hv9 (z.1 0) (z.1 1) (z.1 2) (z.1 3) (z.1 4) (z.1 5) (z.1 6) (z.1 7) (z.1 8 - k), z.2)
/-- a lot changed, in the class and in the model -/
theorem loR_upd {nl lb i : Nat} {lz : Nat → LV} {li : Nat → Nat} {mt : Nat → MV} {z : LV} {y : MV} (h : loR nl lz li mt lb) (hi : i < nl) (hz : ltR z y) (hf : ∀ k, k < 3 → fdB (z.2.1 k)) : loR nl (va_up lz i z) li (va_up mt (li i) y) lb := by
  obtain ⟨h1, h2, h3⟩ := h
  refine ⟨fun j hj => ?_, h2, fun j hj hj2 => ?_⟩
  · by_cases e : j = i
    · rw [e, va_up_eq, va_up_eq]
      exact ⟨(h1 i hi).1, hz, hf⟩
    · have hne : li j ≠ li i := by
        rcases Nat.lt_or_ge j i with q | q
        · have := h2 j i q hi
          omega
        · have := h2 i j (by omega) hj
          omega
      rw [va_up_ne _ _ e, va_up_ne _ _ hne]
      exact h1 j hj
  · rw [va_up_ne _ _ (show j ≠ i by omega)]
    exact h3 j hj hj2
theorem ltR_sold {z : LV} {y : MV} {k : Int32} (h : ltR z y) : ltR (ltSold k z) (mvK k y) := by
  obtain ⟨h1, g0, g1, g2, g4, hf⟩ := h
  refine ⟨h1, g0, g1, g2, ?_, hf⟩
  show z.1 4 - k = y.1 8 - k
  rw [g4]
theorem sel_k {nl lb i : Nat} {li : Nat → Nat} {mz mt : Nat → MV} {s : SK} {ρ : Nat → Int32} (h : selR nl lb li mz s mt ρ) (hi : i < nl) : ∃ a b : Nat, a ≤ 999 ∧ b ≤ 1000 ∧ s.1 = nI a ∧ (s.2.2.2 i).1 4 = nI b ∧ tkK s i = nI (min a b) := by
  obtain ⟨⟨a, ha, ea⟩, hs, -⟩ := h
  obtain ⟨b, hb, eb⟩ := hs i hi
  refine ⟨a, b, ha, hb, ea, eb, ?_⟩
  unfold tkK
  rw [ea, eb, mn_nI]
theorem sel_z {nl lb i : Nat} {li : Nat → Nat} {mz mt : Nat → MV} {s : SK} {ρ : Nat → Int32} (h : selR nl lb li mz s mt ρ) (hi : i < nl) (hc : (s.2.2.2 i).1 4 - tkK s i ≤ 0) : (s.2.2.2 i).1 4 - tkK s i = 0 := by
  obtain ⟨a, b, ha, hb, ea, eb, ek⟩ := sel_k h hi
  rw [eb, ek, pk_sub (Nat.min_le_right _ _)] at hc ⊢
  have := nle (b := 0) hc
  rw [show b - min a b = 0 by omega]
  rfl
theorem sel_b {nl lb i : Nat} {li : Nat → Nat} {mz mt : Nat → MV} {s : SK} {ρ : Nat → Int32} (h : selR nl lb li mz s mt ρ) (hi : i < nl) (hc : ¬ (s.2.2.2 i).1 4 - tkK s i ≤ 0) : ¬ (s.2.2.2 i).1 4 - tkK s i = 0 ∧ s.1 - tkK s i ≤ 0 := by
  obtain ⟨a, b, ha, hb, ea, eb, ek⟩ := sel_k h hi
  rw [eb, ek, pk_sub (Nat.min_le_right _ _)] at hc ⊢
  rw [ea, pk_sub (Nat.min_le_left _ _)]
  have h0 := nnle (b := 0) hc
  refine ⟨fun e => ?_, show nI (a - min a b) ≤ nI 0 from nI_le (by omega) (by omega)⟩
  have := nI_z e (by omega)
  omega
/-- one lot -/
def tkT0 (s : SK) (i : Nat) (z : SV) : SK := (s.1 - tkK s i, s.2.1 + tkK s i * ltPrice ((s.2.2.2 i).1 0), z, va_up s.2.2.2 i (ltSold (tkK s i) (s.2.2.2 i)))
theorem sel_step {nl lb i : Nat} {li : Nat → Nat} {mz mt : Nat → MV} {s : SK} {z : SV} {ρ ρ' : Nat → Int32} (h : selR nl lb li mz s mt ρ) (hi : i < nl) (hr : rwR nl z) (hρ : ∀ κ, κ < z.1 → ρ' κ = z.2.2 κ) : selR nl lb li mz (tkT0 s i z) (va_up mt (li i) (mvK (tkK s i) (mt (li i)))) ρ' := by
  obtain ⟨a, b, ha, hb, ea, eb, ek⟩ := sel_k h hi
  obtain ⟨-, hs, -, hL, hfr, -⟩ := h
  refine ⟨⟨a - min a b, by omega, ?_⟩, fun j hj => ?_, hr, loR_upd hL hi (ltR_sold (hL.1 i hi).2.1) (hL.1 i hi).2.2, fun j hj => ?_, hρ⟩
  · show s.1 - tkK s i = _
    rw [ek, ea, pk_sub (Nat.min_le_left _ _)]
  · show ∃ a : Nat, a ≤ 1000 ∧ (va_up s.2.2.2 i (ltSold (tkK s i) (s.2.2.2 i)) j).1 4 = nI a
    by_cases e : j = i
    · rw [e, va_up_eq]
      refine ⟨b - min a b, by omega, ?_⟩
      show (s.2.2.2 i).1 4 - tkK s i = _
      rw [ek, eb, pk_sub (Nat.min_le_right _ _)]
    · rw [va_up_ne _ _ e]
      exact hs j hj
  · have := (hL.1 i hi).1
    rw [va_up_ne _ _ (show j ≠ li i by omega)]
    exact hfr j hj
theorem sel_T {nl lb i : Nat} {li : Nat → Nat} {mz mt : Nat → MV} {s : SK} {ρ : Nat → Int32} (h : selR nl lb li mz s mt ρ) (hi : i < nl) (hc : 1 ≤ s.2.2.1.1) (hz : (s.2.2.2 i).1 4 - tkK s i = 0) : selR nl lb li mz (tkT s i) (va_up mt (li i) (mvK (tkK s i) (mt (li i)))) (va_cpy ρ ρ 1 0 (s.2.2.1.1 - 1)) := by
  have e : tkT s i = tkT0 s i (siRem s.2.2.1) := by
    unfold tkT tkT0
    rw [if_pos hz]
  have hr := h.2.2.1
  have hρ := h.2.2.2.2.2
  rw [e]
  refine sel_step h hi (fun κ hκ => ?_) (fun κ hκ => ?_)
  · have hκ2 : κ < s.2.2.1.1 - 1 := hκ
    show ∃ v, v < nl ∧ siSh s.2.2.1.2.2 (s.2.2.1.1 - 1) κ = nI v
    rw [siSh_at, if_pos hκ2]
    exact hr (κ + 1) (by omega)
  · have hκ2 : κ < s.2.2.1.1 - 1 := hκ
    show (if 0 ≤ κ ∧ κ < 0 + (s.2.2.1.1 - 1) then ρ (1 + (κ - 0)) else ρ κ) = siSh s.2.2.1.2.2 (s.2.2.1.1 - 1) κ
    rw [siSh_at, if_pos hκ2, if_pos ⟨Nat.zero_le _, by omega⟩, show 1 + (κ - 0) = κ + 1 by omega]
    exact hρ (κ + 1) (by omega)
theorem sel_F {nl lb i : Nat} {li : Nat → Nat} {mz mt : Nat → MV} {s : SK} {ρ : Nat → Int32} (h : selR nl lb li mz s mt ρ) (hi : i < nl) : selR nl lb li mz (tkT0 s i s.2.2.1) (va_up mt (li i) (mvK (tkK s i) (mt (li i)))) ρ :=
  sel_step h hi h.2.2.1 h.2.2.2.2.2
theorem tk_pos {z : SV} {v : Nat} (hc : 1 ≤ z.1) (hc2 : z.1 ≤ 12) (h : z.2.2 0 = nI v) : siAt z.2.2 z.1 0 = nI v := by
  unfold siAt
  rw [show ixB 0 (nI z.1) = 1 from ixB_in (i := 0) hc, if_neg (by decide)]
  exact h
/-- it ends -/
theorem tk_A {nl t : Nat} {s0 s : SK} (ht : t ≤ 12) (e : tkI nl t s0 = s) (h : s.1 ≤ 0) : s = tkI nl 12 s0 := by
  rw [tkI_stuck (t := t) (by rw [e]; exact fun q => q.1 h) ht, e]
theorem tk_B {nl t : Nat} {s0 s : SK} (ht : t ≤ 12) (e : tkI nl t s0 = s) (h : s.2.2.1.1 = 0) : s = tkI nl 12 s0 := by
  refine Eq.trans ?_ (tkI_stuck (t := t) ?_ ht).symm
  · exact e.symm
  · rw [e]
    intro q
    apply q.2
    have e1 : tkX s = -1 := by
      show siAt s.2.2.1.2.2 s.2.2.1.1 0 = -1
      rw [h]
      unfold siAt
      exact if_pos rfl
    rw [e1]
    unfold ixB
    exact if_pos (by decide)
theorem tk_go {nl t i : Nat} {s0 s : SK} (e : tkI nl t s0 = s) (h0 : ¬ s.1 ≤ 0) (hi : i < nl) (hnl : nl ≤ 12) (hs : tkX s = nI i) : tkI nl (t + 1) s0 = tkT s i := by
  show tkS nl (tkI nl t s0) = _
  rw [e]
  exact tkS_go h0 hi hnl hs
theorem tk_C {nl t i : Nat} {s0 s : SK} (ht : t + 1 ≤ 12) (e : tkI nl t s0 = s) (h0 : ¬ s.1 ≤ 0) (hi : i < nl) (hnl : nl ≤ 12) (hs : tkX s = nI i) (hz : ¬ (s.2.2.2 i).1 4 - tkK s i = 0) (hl : s.1 - tkK s i ≤ 0) : tkT0 s i s.2.2.1 = tkI nl 12 s0 := by
  have e1 : tkT s i = tkT0 s i s.2.2.1 := by
    unfold tkT tkT0
    rw [if_neg hz]
  exact tk_A (t := t + 1) ht ((tk_go e h0 hi hnl hs).trans e1) hl
theorem pr3 {x : Int32} (h : x ≤ 5) : ltPrice x = 3 := if_pos (i32_l6 h)
theorem pr4 {x : Int32} (h : ¬ x ≤ 5) : ltPrice x = 4 := if_neg (i32_n6 h)
set_option maxHeartbeats 4000000 in
set_option maxRecDepth 100000 in
/-- ClinkerWorksModel.sell -/
theorem c_X11_sell (l : Launch) (G : VG) (M : Nat → Nat) (th du mny cl ws : Int32) (nb ny fd aw al y : Nat) (rR : Nat → Nat) (rm : Nat → Nat → Int32) (ir sh : Nat → Int32) (Q : Nat → Nat → Nat) (NC : Nat) (mz : Nat → MV) (bl : Nat) (ml : Int32) (Nl nl : Nat) (li : Nat → Nat) (lz : Nat → LV) (sz : Nat → SV) (lb : Nat) (b x : Int32) (hnl : nl ≤ 12) (hlk : alOk Nl nl) (hL : loR nl lz li mz lb) (hlb : lb ≤ NC) (hir : ∀ j, j < 2 → ir j = nI (sz j).1) (hrm : ∀ j, j < 2 → ∀ κ, κ < (sz j).1 → rm j κ = (sz j).2.2 κ) (hs12 : ∀ j, j < 2 → (sz j).1 ≤ 12) (hsh : ∀ j, j < 2 → sh j = (sz j).2.1) (hskr : skR nl lz) (hrw : ∀ j, j < 2 → rwR nl (sz j)) : Mi l G yX11_sell cX11_sell 7 .int 3 64 0 0 [.ref (M 0), .int b, .int x] [[(M 0, .inr (12, [.int th, .ref (M 1), .ref (M 2), .ref aw, .ref al, .ref (M 3), .ref (M 4), .ref (M 5), .ref (M 6), .ref y, .int (nI nb), .int (nI ny), .int du, .int mny, .int cl, .int (nI fd), .int ws]))], alP G al bl ml Nl nl (fun κ => (Q (li κ)) 0), famW NC (fun ι => mcP G (Q ι) (mz ι)), [(M 5, .inl (G.2.1 1, 2, .inl sh))], [(M 3, .inl (G.2.1 9, 2, .inr (.inr (.inr (.inr (rfN 2 rR))))))], famW 2 (fun ι => iaP G (rR ι) 12 (rm ι)), [(M 4, .inl (G.2.1 0, 2, .inl ir))]] (fun r v => (∃ tt : Int32, ((tt = 1 ∧ ¬ inR 0 1 b) ∨ (tt = 2 ∧ inR 0 1 b ∧ ¬ inR 1 999 x) ∨ (tt = 3 ∧ inR 0 1 b ∧ inR 1 999 x ∧ ¬ (sz b.toNatClampNeg).2.1 = 0)) ∧ r = 0 ∧ v = [[(M 0, .inr (12, [.int tt, .ref (M 1), .ref (M 2), .ref aw, .ref al, .ref (M 3), .ref (M 4), .ref (M 5), .ref (M 6), .ref y, .int (nI nb), .int (nI ny), .int du, .int mny, .int cl, .int (nI fd), .int ws]))], alP G al bl ml Nl nl (fun κ => (Q (li κ)) 0), famW NC (fun ι => mcP G (Q ι) (mz ι)), [(M 5, .inl (G.2.1 1, 2, .inl sh))], [(M 3, .inl (G.2.1 9, 2, .inr (.inr (.inr (.inr (rfN 2 rR))))))], famW 2 (fun ι => iaP G (rR ι) 12 (rm ι)), [(M 4, .inl (G.2.1 0, 2, .inl ir))]]) ∨ (∃ (i : Nat) (w : SK) (mt : Nat → MV) (ρ : Nat → Int32), i < 2 ∧ b = nI i ∧ inR 1 999 x ∧ (sz i).2.1 = 0 ∧ w = tkI nl 12 (x, 0, sz i, lz) ∧ selR nl lb li mz w mt ρ ∧ r = w.2.1 ∧ v = [[(M 0, .inr (12, [.int 0, .ref (M 1), .ref (M 2), .ref aw, .ref al, .ref (M 3), .ref (M 4), .ref (M 5), .ref (M 6), .ref y, .int (nI nb), .int (nI ny), .int du, .int (mny + w.2.1), .int cl, .int (nI fd), .int ws]))], alP G al bl ml Nl nl (fun κ => (Q (li κ)) 0), famW NC (fun ι => mcP G (Q ι) (mt ι)), [(M 5, .inl (G.2.1 1, 2, .inl sh))], [(M 3, .inl (G.2.1 9, 2, .inr (.inr (.inr (.inr (rfN 2 rR))))))], famW 2 (fun ι => iaP G (rR ι) 12 ((va_up rm i ρ) ι)), [(M 4, .inl (G.2.1 0, 2, .inl (upd ir i (nI w.2.2.1.1))))]])) := by
  refine Mi_of (by decide) (Nat.le_of_ble_eq_true rfl) (fun pP eE sS mM aA bB tT cC AA QQ hC hr hnm hQ => ?_)
  refine V_aload_n hC dX11_sell_0 0 rfl ?_
  refine V_iconst hC dX11_sell_1 (v := 0) (by decide) ?_
  refine V_put hC dX11_sell_2 inAX11 tyX11 tyX11_ok nmX11 0 0 rfl rfl rfl 0 (by decide) q1078 rfl rfl (rfl) (rfl) (Nat.le_of_ble_eq_true rfl) (ps' := [[(M 0, .inr (12, [.int 0, .ref (M 1), .ref (M 2), .ref aw, .ref al, .ref (M 3), .ref (M 4), .ref (M 5), .ref (M 6), .ref y, .int (nI nb), .int (nI ny), .int du, .int mny, .int cl, .int (nI fd), .int ws]))], alP G al bl ml Nl nl (fun κ => (Q (li κ)) 0), famW NC (fun ι => mcP G (Q ι) (mz ι)), [(M 5, .inl (G.2.1 1, 2, .inl sh))], [(M 3, .inl (G.2.1 9, 2, .inr (.inr (.inr (.inr (rfN 2 rR))))))], famW 2 (fun ι => iaP G (rR ι) 12 (rm ι)), [(M 4, .inl (G.2.1 0, 2, .inl ir))]]) rfl ?_
  refine V_iload_n hC dX11_sell_5 1 rfl ?_
  refine V_iconst hC dX11_sell_6 (v := 0) (by decide) ?_
  refine V_iconst hC dX11_sell_7 (v := 1) (by decide) ?_
  refine V_calli hC (V_runS hC (rest := []) [.int b, .int 0, .int 1] (c_X11_in l G b 0 1) [] rfl (by decide) q1138 q1139 q52 q1140 ⟨by decide, by decide, rfl⟩ ⟨by decide, by decide⟩ rfl (Nat.le_of_ble_eq_true rfl) ⟨by decide, by decide⟩ dX11_sell_8) (is := []) rfl [0, 1, 2, 3, 4, 5, 6] (rs := [[(M 0, .inr (12, [.int 0, .ref (M 1), .ref (M 2), .ref aw, .ref al, .ref (M 3), .ref (M 4), .ref (M 5), .ref (M 6), .ref y, .int (nI nb), .int (nI ny), .int du, .int mny, .int cl, .int (nI fd), .int ws]))], alP G al bl ml Nl nl (fun κ => (Q (li κ)) 0), famW NC (fun ι => mcP G (Q ι) (mz ι)), [(M 5, .inl (G.2.1 1, 2, .inl sh))], [(M 3, .inl (G.2.1 9, 2, .inr (.inr (.inr (.inr (rfN 2 rR))))))], famW 2 (fun ι => iaP G (rR ι) 12 (rm ι)), [(M 4, .inl (G.2.1 0, 2, .inl ir))]]) rfl (by decide) (by decide) ?_
  rintro _ _ ⟨rfl, rfl⟩
  refine V_if_ne hC dX11_sell_11 (tgt := 20) (by decide) (fun h1 => ?_) (fun h1 => ?_)
  · have hib := moIn_y h1
    obtain ⟨i, hi, rfl⟩ : ∃ w9 : Nat, w9 < 2 ∧ b = nI w9 := by obtain ⟨w9, hw9, e9⟩ := inR_of (M := 1) (moIn_y h1); exact ⟨w9, by omega, e9⟩
    refine V_iload_n hC dX11_sell_20 2 rfl ?_
    refine V_iconst hC dX11_sell_21 (v := 1) (by decide) ?_
    refine V_sipush hC dX11_sell_22 (v := 999) (by decide) ?_
    refine V_calli hC (V_runS hC (rest := []) [.int x, .int 1, .int 999] (c_X11_in l G x 1 999) [] rfl (by decide) q1138 q1139 q52 q1140 ⟨by decide, by decide, rfl⟩ ⟨by decide, by decide⟩ rfl (Nat.le_of_ble_eq_true rfl) ⟨by decide, by decide⟩ dX11_sell_25) (is := []) rfl [0, 1, 2, 3, 4, 5, 6] (rs := [[(M 0, .inr (12, [.int 0, .ref (M 1), .ref (M 2), .ref aw, .ref al, .ref (M 3), .ref (M 4), .ref (M 5), .ref (M 6), .ref y, .int (nI nb), .int (nI ny), .int du, .int mny, .int cl, .int (nI fd), .int ws]))], alP G al bl ml Nl nl (fun κ => (Q (li κ)) 0), famW NC (fun ι => mcP G (Q ι) (mz ι)), [(M 5, .inl (G.2.1 1, 2, .inl sh))], [(M 3, .inl (G.2.1 9, 2, .inr (.inr (.inr (.inr (rfN 2 rR))))))], famW 2 (fun ι => iaP G (rR ι) 12 (rm ι)), [(M 4, .inl (G.2.1 0, 2, .inl ir))]]) rfl (by decide) (by decide) ?_
    rintro _ _ ⟨rfl, rfl⟩
    refine V_if_ne hC dX11_sell_28 (tgt := 37) (by decide) (fun h2 => ?_) (fun h2 => ?_)
    · have hx := moIn_y h2
      refine V_aload_n hC dX11_sell_37 0 rfl ?_
      refine V_get hC dX11_sell_38 inAX11 (mem_at 0 0 rfl rfl) rfl 7 (by decide) q1085 rfl (v := .ref (M 5)) rfl ?_
      refine V_iload_n hC dX11_sell_41 1 rfl ?_
      refine V_zald hC dX11_sell_42 (mem_at 3 0 rfl rfl) (vp_in_nI (by omega) (by omega)) (x := i) (nI_clamp (by omega)) ?_
      refine V_if_eq hC dX11_sell_43 (tgt := 52) (by decide) (fun h3 => ?_) (fun h3 => ?_)
      · have hs0 : sh i = 0 := h3
        obtain ⟨a9, ha9, hb9, ex9⟩ := inR_of1 (K := 1) (M := 999) hx
        refine V_iconst hC dX11_sell_52 (v := 0) (by decide) ?_
        refine V_istore_n hC dX11_sell_53 (L' := [(3, .int 0), (0, .ref (M 0)), (1, .int (nI i)), (2, .int x)]) (by decide) rfl ?_
        refine V_psEq (ps' := [[(M 0, .inr (12, [.int 0, .ref (M 1), .ref (M 2), .ref aw, .ref al, .ref (M 3), .ref (M 4), .ref (M 5), .ref (M 6), .ref y, .int (nI nb), .int (nI ny), .int du, .int mny, .int cl, .int (nI fd), .int ws]))], alP G al bl ml Nl nl (fun κ => (Q (li κ)) 0), famW NC (fun ι => mcP G (Q ι) (mz ι)), [(M 5, .inl (G.2.1 1, 2, .inl sh))], [(M 3, .inl (G.2.1 9, 2, .inr (.inr (.inr (.inr (rfN 2 rR))))))], famW 2 (fun ι => iaP G (rR ι) 12 ((va_up rm i (rm i)) ι)), [(M 4, .inl (G.2.1 0, 2, .inl (upd ir i (nI (sz i).1))))]]) (by rw [va_upI, upd_I (hir i hi)]; first | done | rfl) ?_
        refine V_iload_n hC dX11_sell_54 3 rfl ?_
        refine V_istore hC dX11_sell_55 (L' := [(4, .int x), (3, .int 0), (0, .ref (M 0)), (1, .int (nI i)), (2, .int x)]) (by decide) rfl ?_
        have loop4 : ∀ (fuel : Nat) (t : Nat) (s : SK) (mt : Nat → MV) (ρ : Nat → Int32) (hts : tkI nl t (x, 0, sz i, lz) = s) (ht : t + s.2.2.1.1 ≤ 12) (hR : selR nl lb li mz s mt ρ) (_ : 13 - t < fuel), V pP l eE { frames := 3, cells := 0, slots := 0, locals := 64 } sS mM aA bB tT cC QQ G AA 7 [[(M 0, .inr (12, [.int 0, .ref (M 1), .ref (M 2), .ref aw, .ref al, .ref (M 3), .ref (M 4), .ref (M 5), .ref (M 6), .ref y, .int (nI nb), .int (nI ny), .int du, .int mny, .int cl, .int (nI fd), .int ws]))], alP G al bl ml Nl nl (fun κ => (Q (li κ)) 0), famW NC (fun ι => mcP G (Q ι) (mt ι)), [(M 5, .inl (G.2.1 1, 2, .inl sh))], [(M 3, .inl (G.2.1 9, 2, .inr (.inr (.inr (.inr (rfN 2 rR))))))], famW 2 (fun ι => iaP G (rR ι) 12 ((va_up rm i ρ) ι)), [(M 4, .inl (G.2.1 0, 2, .inl (upd ir i (nI s.2.2.1.1))))]] 0 0 57 [(0, .ref (M 0)), (1, .int (nI i)), (2, .int x), (3, .int s.2.1), (4, .int s.1)] [] := by
          intro fuel
          induction fuel with
          | zero => intro t s mt ρ hts ht hR hm; exact absurd hm (Nat.not_lt_zero _)
          | succ fuel ih =>
            intro t s mt ρ hts ht hR hm
            refine V_iload hC dX11_sell_57 4 rfl ?_
            refine V_if_le hC dX11_sell_59 (tgt := 191) (by decide) (fun h5 => ?_) (fun h5 => ?_)
            · have hle : s.1 ≤ 0 := h5
              refine V_aload_n hC dX11_sell_191 0 rfl ?_
              refine V_dup hC dX11_sell_192 rfl ?_
              refine V_get hC dX11_sell_193 inAX11 (mem_at 0 0 rfl rfl) rfl 13 (by decide) q1091 rfl (v := .int mny) rfl ?_
              refine V_iload_n hC dX11_sell_196 3 rfl ?_
              refine V_iadd hC dX11_sell_197 ?_
              refine V_put hC dX11_sell_198 inAX11 tyX11 tyX11_ok nmX11 0 0 rfl rfl rfl 13 (by decide) q1091 rfl rfl (rfl) (rfl) (Nat.le_of_ble_eq_true rfl) (ps' := [[(M 0, .inr (12, [.int 0, .ref (M 1), .ref (M 2), .ref aw, .ref al, .ref (M 3), .ref (M 4), .ref (M 5), .ref (M 6), .ref y, .int (nI nb), .int (nI ny), .int du, .int (mny + s.2.1), .int cl, .int (nI fd), .int ws]))], alP G al bl ml Nl nl (fun κ => (Q (li κ)) 0), famW NC (fun ι => mcP G (Q ι) (mt ι)), [(M 5, .inl (G.2.1 1, 2, .inl sh))], [(M 3, .inl (G.2.1 9, 2, .inr (.inr (.inr (.inr (rfN 2 rR))))))], famW 2 (fun ι => iaP G (rR ι) 12 ((va_up rm i ρ) ι)), [(M 4, .inl (G.2.1 0, 2, .inl (upd ir i (nI s.2.2.1.1))))]]) rfl ?_
              refine V_iload_n hC dX11_sell_201 3 rfl ?_
              exact V_iret hC hQ hr [0, 1, 2, 3, 4, 5, 6] (u := [[(M 0, .inr (12, [.int 0, .ref (M 1), .ref (M 2), .ref aw, .ref al, .ref (M 3), .ref (M 4), .ref (M 5), .ref (M 6), .ref y, .int (nI nb), .int (nI ny), .int du, .int (mny + s.2.1), .int cl, .int (nI fd), .int ws]))], alP G al bl ml Nl nl (fun κ => (Q (li κ)) 0), famW NC (fun ι => mcP G (Q ι) (mt ι)), [(M 5, .inl (G.2.1 1, 2, .inl sh))], [(M 3, .inl (G.2.1 9, 2, .inr (.inr (.inr (.inr (rfN 2 rR))))))], famW 2 (fun ι => iaP G (rR ι) 12 ((va_up rm i ρ) ι)), [(M 4, .inl (G.2.1 0, 2, .inl (upd ir i (nI s.2.2.1.1))))]]) (by decide) rfl (by decide) (by decide) dX11_sell_202 (Or.inr ⟨i, s, mt, ρ, hi, rfl, hx, by first | exact (hsh i hi).symm.trans hs0 | exact ((hsh i hi).symm.trans hs0), tk_A (by omega) hts hle, hR, rfl, rfl⟩)
            · have hpo : ¬ s.1 ≤ 0 := h5
              refine V_aload_n hC dX11_sell_62 0 rfl ?_
              refine V_get hC dX11_sell_63 inAX11 (mem_at 0 0 rfl rfl) rfl 6 (by decide) q1084 rfl (v := .ref (M 4)) rfl ?_
              refine V_iload_n hC dX11_sell_66 1 rfl ?_
              refine V_iald hC dX11_sell_67 (mem_at 6 0 rfl rfl) (vp_in_nI (by omega) (by omega)) (x := i) (nI_clamp (by omega)) ?_
              refine V_eqi (y := nI s.2.2.1.1) (pk_us) ?_
              refine V_if_le hC dX11_sell_68 (tgt := 191) (by decide) (fun h6 => ?_) (fun h6 => ?_)
              · have hc0 : s.2.2.1.1 = 0 := by have := nle (b := 0) h6; omega
                refine V_aload_n hC dX11_sell_191 0 rfl ?_
                refine V_dup hC dX11_sell_192 rfl ?_
                refine V_get hC dX11_sell_193 inAX11 (mem_at 0 0 rfl rfl) rfl 13 (by decide) q1091 rfl (v := .int mny) rfl ?_
                refine V_iload_n hC dX11_sell_196 3 rfl ?_
                refine V_iadd hC dX11_sell_197 ?_
                refine V_put hC dX11_sell_198 inAX11 tyX11 tyX11_ok nmX11 0 0 rfl rfl rfl 13 (by decide) q1091 rfl rfl (rfl) (rfl) (Nat.le_of_ble_eq_true rfl) (ps' := [[(M 0, .inr (12, [.int 0, .ref (M 1), .ref (M 2), .ref aw, .ref al, .ref (M 3), .ref (M 4), .ref (M 5), .ref (M 6), .ref y, .int (nI nb), .int (nI ny), .int du, .int (mny + s.2.1), .int cl, .int (nI fd), .int ws]))], alP G al bl ml Nl nl (fun κ => (Q (li κ)) 0), famW NC (fun ι => mcP G (Q ι) (mt ι)), [(M 5, .inl (G.2.1 1, 2, .inl sh))], [(M 3, .inl (G.2.1 9, 2, .inr (.inr (.inr (.inr (rfN 2 rR))))))], famW 2 (fun ι => iaP G (rR ι) 12 ((va_up rm i ρ) ι)), [(M 4, .inl (G.2.1 0, 2, .inl (upd ir i (nI s.2.2.1.1))))]]) rfl ?_
                refine V_iload_n hC dX11_sell_201 3 rfl ?_
                exact V_iret hC hQ hr [0, 1, 2, 3, 4, 5, 6] (u := [[(M 0, .inr (12, [.int 0, .ref (M 1), .ref (M 2), .ref aw, .ref al, .ref (M 3), .ref (M 4), .ref (M 5), .ref (M 6), .ref y, .int (nI nb), .int (nI ny), .int du, .int (mny + s.2.1), .int cl, .int (nI fd), .int ws]))], alP G al bl ml Nl nl (fun κ => (Q (li κ)) 0), famW NC (fun ι => mcP G (Q ι) (mt ι)), [(M 5, .inl (G.2.1 1, 2, .inl sh))], [(M 3, .inl (G.2.1 9, 2, .inr (.inr (.inr (.inr (rfN 2 rR))))))], famW 2 (fun ι => iaP G (rR ι) 12 ((va_up rm i ρ) ι)), [(M 4, .inl (G.2.1 0, 2, .inl (upd ir i (nI s.2.2.1.1))))]]) (by decide) rfl (by decide) (by decide) dX11_sell_202 (Or.inr ⟨i, s, mt, ρ, hi, rfl, hx, by first | exact (hsh i hi).symm.trans hs0 | exact ((hsh i hi).symm.trans hs0), tk_B (by omega) hts hc0, hR, rfl, rfl⟩)
              · have hc1 : 1 ≤ s.2.2.1.1 := nnle (b := 0) h6
                obtain ⟨v, hv, hsv⟩ := hR.2.2.1 0 hc1
                have hx0 : tkX s = nI v := tk_pos hc1 (by omega) hsv
                have hlv : li v < NC := Nat.lt_of_lt_of_le (hR.2.2.2.1.1 v hv).1 hlb
                have hlt9 := (hR.2.2.2.1.1 v hv).2.1
                refine V_aload_n hC dX11_sell_71 0 rfl ?_
                refine V_get hC dX11_sell_72 inAX11 (mem_at 0 0 rfl rfl) rfl 4 (by decide) q1082 rfl (v := .ref al) rfl ?_
                refine V_aload_n hC dX11_sell_75 0 rfl ?_
                refine V_get hC dX11_sell_76 inAX11 (mem_at 0 0 rfl rfl) rfl 5 (by decide) q1083 rfl (v := .ref (M 3)) rfl ?_
                refine V_iload_n hC dX11_sell_79 1 rfl ?_
                refine V_aaldI hC dX11_sell_80 (mem_at 4 0 rfl rfl) (vp_in_nI (by omega) (by omega)) (x := i) (nI_clamp (by omega)) (b := rR i) (rfN_at (hi)) ?_
                refine V_iconst hC dX11_sell_81 (v := 0) (by decide) ?_
                refine V_iald hC dX11_sell_82 (mem_fam 5 0 rfl i (hi) rfl) (vin (by decide)) (x := 0) (by decide) ?_
                refine V_eqi (y := nI v) (by rw [va_up_eq, hR.2.2.2.2.2 0 hc1, hsv]) ?_
                refine V_callFr hC (V_runF hC (rest := []) [.int (nI v)] (Mr_sz (c_al_get l G al bl ml Nl nl (fun κ => (Q (li κ)) 0) v hv hlk.1 (by have := hlk.2; omega))) [1] rfl (by decide) q1298 (by decide +kernel) q1303 q1301 q55 q1305 ⟨by decide, by decide, rfl⟩ ⟨by decide, by decide⟩ rfl (mem_at 1 0 rfl rfl) rfl (Nat.le_of_ble_eq_true rfl) ⟨by decide, by decide⟩ dX11_sell_83) (is := [1]) rfl [0, 2, 3, 4, 5, 6] (rs := [[(M 0, .inr (12, [.int 0, .ref (M 1), .ref (M 2), .ref aw, .ref al, .ref (M 3), .ref (M 4), .ref (M 5), .ref (M 6), .ref y, .int (nI nb), .int (nI ny), .int du, .int mny, .int cl, .int (nI fd), .int ws]))], famW NC (fun ι => mcP G (Q ι) (mt ι)), [(M 5, .inl (G.2.1 1, 2, .inl sh))], [(M 3, .inl (G.2.1 9, 2, .inr (.inr (.inr (.inr (rfN 2 rR))))))], famW 2 (fun ι => iaP G (rR ι) 12 ((va_up rm i ρ) ι)), [(M 4, .inl (G.2.1 0, 2, .inl (upd ir i (nI s.2.2.1.1))))]]) rfl (by decide) (by decide) ?_
                rintro _ _ ⟨rfl, rfl⟩
                refine V_cast hC dX11_sell_88 q1183 (ci := 10) rfl (mem_fam 2 0 rfl (li v) (hlv) rfl) ?_
                refine V_astore hC dX11_sell_91 (L' := [(5, .ref ((Q (li v)) 0)), (0, .ref (M 0)), (1, .int (nI i)), (2, .int x), (3, .int s.2.1), (4, .int s.1)]) (by decide) rfl ?_
                refine V_iload hC dX11_sell_93 5 rfl ?_
                refine V_aload hC dX11_sell_95 0 rfl ?_
                refine V_get hC dX11_sell_97 inAX9 (mem_fam 2 0 rfl (li v) (hlv) rfl) rfl 10 (by decide) q1008 rfl (v := .int (((mt (li v)).1) 8)) rfl ?_
                refine V_mmin hC q1160 q629 q65 q630 (by decide) (Nat.le_of_ble_eq_true rfl) (by decide) (by decide) dX11_sell_100 ?_
                refine V_eqi (y := tkK s v) (by show mn s.1 ((mt (li v)).1 8) = mn s.1 ((s.2.2.2 v).1 4); rw [hlt9.2.2.2.2.1]) ?_
                refine V_istore hC dX11_sell_103 (L' := [(6, .int (tkK s v)), (5, .ref ((Q (li v)) 0)), (0, .ref (M 0)), (1, .int (nI i)), (2, .int x), (3, .int s.2.1), (4, .int s.1)]) (by decide) rfl ?_
                refine V_aload hC dX11_sell_105 1 rfl ?_
                refine V_dup hC dX11_sell_107 rfl ?_
                refine V_get hC dX11_sell_108 inAX9 (mem_fam 2 0 rfl (li v) (hlv) rfl) rfl 10 (by decide) q1008 rfl (v := .int (((mt (li v)).1) 8)) rfl ?_
                refine V_iload hC dX11_sell_111 0 rfl ?_
                refine V_isub hC dX11_sell_113 ?_
                refine V_sub [2, 0, 1, 3, 4, 5, 6] (by decide) (u := [famW NC (fun ι => mcP G (Q ι) (mt ι)), alP G al bl ml Nl nl (fun κ => (Q (li κ)) 0), [(M 0, .inr (12, [.int 0, .ref (M 1), .ref (M 2), .ref aw, .ref al, .ref (M 3), .ref (M 4), .ref (M 5), .ref (M 6), .ref y, .int (nI nb), .int (nI ny), .int du, .int mny, .int cl, .int (nI fd), .int ws]))], [(M 5, .inl (G.2.1 1, 2, .inl sh))], [(M 3, .inl (G.2.1 9, 2, .inr (.inr (.inr (.inr (rfN 2 rR))))))], famW 2 (fun ι => iaP G (rR ι) 12 ((va_up rm i ρ) ι)), [(M 4, .inl (G.2.1 0, 2, .inl (upd ir i (nI s.2.2.1.1))))]]) rfl ?_
                refine V_open (i := li v) (hlv) ?_
                refine V_put hC dX11_sell_114 inAX9 tyX9 tyX9_ok nmX9 0 0 rfl rfl rfl 10 (by decide) q1008 rfl rfl (rfl) (rfl) (Nat.le_of_ble_eq_true rfl) (ps' := [mcP G (Q (li v)) (hv9 (((mt (li v)).1) 0) (((mt (li v)).1) 1) (((mt (li v)).1) 2) (((mt (li v)).1) 3) (((mt (li v)).1) 4) (((mt (li v)).1) 5) (((mt (li v)).1) 6) (((mt (li v)).1) 7) ((((mt (li v)).1) 8) - (tkK s v)), (mt (li v)).2.1, (mt (li v)).2.2.1, (mt (li v)).2.2.2), famX NC (li v) (fun ι => mcP G (Q ι) (mt ι)), alP G al bl ml Nl nl (fun κ => (Q (li κ)) 0), [(M 0, .inr (12, [.int 0, .ref (M 1), .ref (M 2), .ref aw, .ref al, .ref (M 3), .ref (M 4), .ref (M 5), .ref (M 6), .ref y, .int (nI nb), .int (nI ny), .int du, .int mny, .int cl, .int (nI fd), .int ws]))], [(M 5, .inl (G.2.1 1, 2, .inl sh))], [(M 3, .inl (G.2.1 9, 2, .inr (.inr (.inr (.inr (rfN 2 rR))))))], famW 2 (fun ι => iaP G (rR ι) 12 ((va_up rm i ρ) ι)), [(M 4, .inl (G.2.1 0, 2, .inl (upd ir i (nI s.2.2.1.1))))]]) rfl ?_
                refine V_psEq (ps' := [mcP G (Q (li v)) (mvK (tkK s v) (mt (li v))), famX NC (li v) (fun ι => mcP G (Q ι) (mt ι)), alP G al bl ml Nl nl (fun κ => (Q (li κ)) 0), [(M 0, .inr (12, [.int 0, .ref (M 1), .ref (M 2), .ref aw, .ref al, .ref (M 3), .ref (M 4), .ref (M 5), .ref (M 6), .ref y, .int (nI nb), .int (nI ny), .int du, .int mny, .int cl, .int (nI fd), .int ws]))], [(M 5, .inl (G.2.1 1, 2, .inl sh))], [(M 3, .inl (G.2.1 9, 2, .inr (.inr (.inr (.inr (rfN 2 rR))))))], famW 2 (fun ι => iaP G (rR ι) 12 ((va_up rm i ρ) ι)), [(M 4, .inl (G.2.1 0, 2, .inl (upd ir i (nI s.2.2.1.1))))]]) rfl ?_
                refine V_close (i := li v) (g' := fun ι => mcP G (Q ι) ((va_up mt (li v) (mvK (tkK s v) (mt (li v)))) ι)) (hlv) (by simp [va_up]) (fun j _ hne => by simp [va_up, hne]) ?_
                refine V_iload hC dX11_sell_117 6 rfl ?_
                refine V_iload hC dX11_sell_119 0 rfl ?_
                refine V_isub hC dX11_sell_121 ?_
                refine V_istore hC dX11_sell_122 (L' := [(4, .int (s.1 - (tkK s v))), (6, .int (tkK s v)), (5, .ref ((Q (li v)) 0)), (0, .ref (M 0)), (1, .int (nI i)), (2, .int x), (3, .int s.2.1)]) (by decide) rfl ?_
                refine V_iload_n hC dX11_sell_124 6 rfl ?_
                refine V_iload hC dX11_sell_125 1 rfl ?_
                refine V_aload hC dX11_sell_127 2 rfl ?_
                refine V_get hC dX11_sell_129 inAX9 (mem_fam 0 0 rfl (li v) (hlv) rfl) rfl 7 (by decide) q1002 rfl (v := .int ((((va_up mt (li v) (mvK (tkK s v) (mt (li v)))) (li v)).1) 5)) rfl ?_
                refine V_eqi (y := (s.2.2.2 v).1 0) (by rw [va_up_eq]; exact hlt9.2.1.symm) ?_
                refine V_iconst hC dX11_sell_132 (v := 5) (by decide) ?_
                refine V_icmp_le hC dX11_sell_133 (tgt := 140) (by decide) (fun h7 => ?_) (fun h7 => ?_)
                · have hpr := pr3 h7
                  refine V_iconst hC dX11_sell_140 (v := 3) (by decide) ?_
                  refine V_imul hC dX11_sell_141 ?_
                  refine V_iadd hC dX11_sell_142 ?_
                  refine V_eqi (y := s.2.1 + (tkK s v) * ltPrice ((s.2.2.2 v).1 0)) (by rw [hpr]) ?_
                  refine V_istore_n hC dX11_sell_143 (L' := [(3, .int (s.2.1 + (tkK s v) * ltPrice ((s.2.2.2 v).1 0))), (4, .int (s.1 - (tkK s v))), (6, .int (tkK s v)), (5, .ref ((Q (li v)) 0)), (0, .ref (M 0)), (1, .int (nI i)), (2, .int x)]) (by decide) rfl ?_
                  refine V_aload hC dX11_sell_144 3 rfl ?_
                  refine V_get hC dX11_sell_146 inAX9 (mem_fam 0 0 rfl (li v) (hlv) rfl) rfl 10 (by decide) q1008 rfl (v := .int ((((va_up mt (li v) (mvK (tkK s v) (mt (li v)))) (li v)).1) 8)) rfl ?_
                  refine V_eqi (y := (s.2.2.2 v).1 4 - (tkK s v)) (by rw [va_up_eq]; show (mt (li v)).1 8 - (tkK s v) = _; rw [hlt9.2.2.2.2.1]) ?_
                  refine V_if_le hC dX11_sell_149 (tgt := 155) (by decide) (fun h8 => ?_) (fun h8 => ?_)
                  · have hsk := h8
                    refine V_aload_n hC dX11_sell_155 4 rfl ?_
                    refine V_get hC dX11_sell_156 inAX11 (mem_at 2 0 rfl rfl) rfl 6 (by decide) q1084 rfl (v := .ref (M 4)) rfl ?_
                    refine V_iload_n hC dX11_sell_159 5 rfl ?_
                    refine V_dup2 hC dX11_sell_160 rfl rfl ?_
                    refine V_iald hC dX11_sell_161 (mem_at 6 0 rfl rfl) (vp_in_nI (by omega) (by omega)) (x := i) (nI_clamp (by omega)) ?_
                    refine V_eqi (y := nI s.2.2.1.1) (pk_us) ?_
                    refine V_iconst hC dX11_sell_162 (v := 1) (by decide) ?_
                    refine V_isub hC dX11_sell_163 ?_
                    refine V_eqi (y := nI (s.2.2.1.1 - 1)) (pk_sub (b := 1) hc1) ?_
                    refine V_iast hC dX11_sell_164 6 0 rfl rfl (vp_in_nI (by omega) (by omega)) (z := i) (nI_clamp (by omega)) (ps' := [famW NC (fun ι => mcP G (Q ι) ((va_up mt (li v) (mvK (tkK s v) (mt (li v)))) ι)), alP G al bl ml Nl nl (fun κ => (Q (li κ)) 0), [(M 0, .inr (12, [.int 0, .ref (M 1), .ref (M 2), .ref aw, .ref al, .ref (M 3), .ref (M 4), .ref (M 5), .ref (M 6), .ref y, .int (nI nb), .int (nI ny), .int du, .int mny, .int cl, .int (nI fd), .int ws]))], [(M 5, .inl (G.2.1 1, 2, .inl sh))], [(M 3, .inl (G.2.1 9, 2, .inr (.inr (.inr (.inr (rfN 2 rR))))))], famW 2 (fun ι => iaP G (rR ι) 12 ((va_up rm i ρ) ι)), [(M 4, .inl (G.2.1 0, 2, .inl (upd (upd ir i (nI s.2.2.1.1)) i (nI (s.2.2.1.1 - 1)))))]]) rfl ?_
                    refine V_psEq (ps' := [famW NC (fun ι => mcP G (Q ι) ((va_up mt (li v) (mvK (tkK s v) (mt (li v)))) ι)), alP G al bl ml Nl nl (fun κ => (Q (li κ)) 0), [(M 0, .inr (12, [.int 0, .ref (M 1), .ref (M 2), .ref aw, .ref al, .ref (M 3), .ref (M 4), .ref (M 5), .ref (M 6), .ref y, .int (nI nb), .int (nI ny), .int du, .int mny, .int cl, .int (nI fd), .int ws]))], [(M 5, .inl (G.2.1 1, 2, .inl sh))], [(M 3, .inl (G.2.1 9, 2, .inr (.inr (.inr (.inr (rfN 2 rR))))))], famW 2 (fun ι => iaP G (rR ι) 12 ((va_up rm i ρ) ι)), [(M 4, .inl (G.2.1 0, 2, .inl (upd ir i (nI (s.2.2.1.1 - 1)))))]]) (by rw [upd_2]) ?_
                    refine V_aload_n hC dX11_sell_165 4 rfl ?_
                    refine V_get hC dX11_sell_166 inAX11 (mem_at 2 0 rfl rfl) rfl 5 (by decide) q1083 rfl (v := .ref (M 3)) rfl ?_
                    refine V_iload_n hC dX11_sell_169 5 rfl ?_
                    refine V_aaldI hC dX11_sell_170 (mem_at 4 0 rfl rfl) (vp_in_nI (by omega) (by omega)) (x := i) (nI_clamp (by omega)) (b := rR i) (rfN_at (hi)) ?_
                    refine V_iconst hC dX11_sell_171 (v := 1) (by decide) ?_
                    refine V_aload_n hC dX11_sell_172 4 rfl ?_
                    refine V_get hC dX11_sell_173 inAX11 (mem_at 2 0 rfl rfl) rfl 5 (by decide) q1083 rfl (v := .ref (M 3)) rfl ?_
                    refine V_iload_n hC dX11_sell_176 5 rfl ?_
                    refine V_aaldI hC dX11_sell_177 (mem_at 4 0 rfl rfl) (vp_in_nI (by omega) (by omega)) (x := i) (nI_clamp (by omega)) (b := rR i) (rfN_at (hi)) ?_
                    refine V_iconst hC dX11_sell_178 (v := 0) (by decide) ?_
                    refine V_aload_n hC dX11_sell_179 4 rfl ?_
                    refine V_get hC dX11_sell_180 inAX11 (mem_at 2 0 rfl rfl) rfl 6 (by decide) q1084 rfl (v := .ref (M 4)) rfl ?_
                    refine V_iload_n hC dX11_sell_183 5 rfl ?_
                    refine V_iald hC dX11_sell_184 (mem_at 6 0 rfl rfl) (vp_in_nI (by omega) (by omega)) (x := i) (nI_clamp (by omega)) ?_
                    refine V_eqi (y := nI (s.2.2.1.1 - 1)) (pk_us) ?_
                    refine V_sub [5, 0, 1, 2, 3, 4, 6] (by decide) (u := [famW 2 (fun ι => iaP G (rR ι) 12 ((va_up rm i ρ) ι)), famW NC (fun ι => mcP G (Q ι) ((va_up mt (li v) (mvK (tkK s v) (mt (li v)))) ι)), alP G al bl ml Nl nl (fun κ => (Q (li κ)) 0), [(M 0, .inr (12, [.int 0, .ref (M 1), .ref (M 2), .ref aw, .ref al, .ref (M 3), .ref (M 4), .ref (M 5), .ref (M 6), .ref y, .int (nI nb), .int (nI ny), .int du, .int mny, .int cl, .int (nI fd), .int ws]))], [(M 5, .inl (G.2.1 1, 2, .inl sh))], [(M 3, .inl (G.2.1 9, 2, .inr (.inr (.inr (.inr (rfN 2 rR))))))], [(M 4, .inl (G.2.1 0, 2, .inl (upd ir i (nI (s.2.2.1.1 - 1)))))]]) rfl ?_
                    refine V_open (i := i) (hi) ?_
                    refine V_copyi hC q1145 q1147 q1146 q63 (mem_at 0 0 rfl rfl) 0 0 rfl rfl 1 0 (s.2.2.1.1 - 1) (by rfl) (by rfl) (by rfl) (by omega) (by omega) (by first | decide | omega) (by first | decide | omega) (by decide) (by decide) (ps' := [iaP G (rR i) 12 (va_cpy ((va_up rm i ρ) i) ((va_up rm i ρ) i) 1 0 (s.2.2.1.1 - 1)), famX 2 i (fun ι => iaP G (rR ι) 12 ((va_up rm i ρ) ι)), famW NC (fun ι => mcP G (Q ι) ((va_up mt (li v) (mvK (tkK s v) (mt (li v)))) ι)), alP G al bl ml Nl nl (fun κ => (Q (li κ)) 0), [(M 0, .inr (12, [.int 0, .ref (M 1), .ref (M 2), .ref aw, .ref al, .ref (M 3), .ref (M 4), .ref (M 5), .ref (M 6), .ref y, .int (nI nb), .int (nI ny), .int du, .int mny, .int cl, .int (nI fd), .int ws]))], [(M 5, .inl (G.2.1 1, 2, .inl sh))], [(M 3, .inl (G.2.1 9, 2, .inr (.inr (.inr (.inr (rfN 2 rR))))))], [(M 4, .inl (G.2.1 0, 2, .inl (upd ir i (nI (s.2.2.1.1 - 1)))))]]) rfl dX11_sell_185 ?_
                    refine V_close (i := i) (g' := fun ι => iaP G (rR ι) 12 ((va_up rm i (va_cpy ρ ρ 1 0 (s.2.2.1.1 - 1))) ι)) (hi) (by simp [va_up]) (fun j _ hne => by simp [va_up, hne]) ?_
                    refine V_goto hC dX11_sell_188 (tgt := 57) (by decide) ?_
                    refine V_loc (L' := [(0, .ref (M 0)), (1, .int (nI i)), (2, .int x), (3, .int (s.2.1 + (tkK s v) * ltPrice ((s.2.2.2 v).1 0))), (4, .int (s.1 - (tkK s v)))]) [4, 5, 6, 0, 1] rfl ?_
                    refine V_sub [3, 2, 1, 4, 5, 0, 6] (by decide) (u := [[(M 0, .inr (12, [.int 0, .ref (M 1), .ref (M 2), .ref aw, .ref al, .ref (M 3), .ref (M 4), .ref (M 5), .ref (M 6), .ref y, .int (nI nb), .int (nI ny), .int du, .int mny, .int cl, .int (nI fd), .int ws]))], alP G al bl ml Nl nl (fun κ => (Q (li κ)) 0), famW NC (fun ι => mcP G (Q ι) ((va_up mt (li v) (mvK (tkK s v) (mt (li v)))) ι)), [(M 5, .inl (G.2.1 1, 2, .inl sh))], [(M 3, .inl (G.2.1 9, 2, .inr (.inr (.inr (.inr (rfN 2 rR))))))], famW 2 (fun ι => iaP G (rR ι) 12 ((va_up rm i (va_cpy ρ ρ 1 0 (s.2.2.1.1 - 1))) ι)), [(M 4, .inl (G.2.1 0, 2, .inl (upd ir i (nI (s.2.2.1.1 - 1)))))]]) rfl ?_
                    have hz0 := sel_z hR hv hsk
                    have hR2 := sel_T hR hv hc1 hz0
                    have ht2 := tk_go hts hpo hv hnl hx0
                    have e9 : (tkT s v).2.2.1.1 = s.2.2.1.1 - 1 := by show (if _ then siRem _ else _ : SV).1 = _; rw [if_pos hz0]; rfl
                    have hh := ih (t + 1) (tkT s v) _ (va_cpy ρ ρ 1 0 (s.2.2.1.1 - 1)) ht2 (by rw [e9]; omega) hR2 (by omega)
                    rw [e9] at hh
                    exact hh
                  · have hsk := h8
                    refine V_goto hC dX11_sell_152 (tgt := 191) (by decide) ?_
                    refine V_aload_n hC dX11_sell_191 4 rfl ?_
                    refine V_dup hC dX11_sell_192 rfl ?_
                    refine V_get hC dX11_sell_193 inAX11 (mem_at 2 0 rfl rfl) rfl 13 (by decide) q1091 rfl (v := .int mny) rfl ?_
                    refine V_iload_n hC dX11_sell_196 0 rfl ?_
                    refine V_iadd hC dX11_sell_197 ?_
                    refine V_put hC dX11_sell_198 inAX11 tyX11 tyX11_ok nmX11 2 0 rfl rfl rfl 13 (by decide) q1091 rfl rfl (rfl) (rfl) (Nat.le_of_ble_eq_true rfl) (ps' := [famW NC (fun ι => mcP G (Q ι) ((va_up mt (li v) (mvK (tkK s v) (mt (li v)))) ι)), alP G al bl ml Nl nl (fun κ => (Q (li κ)) 0), [(M 0, .inr (12, [.int 0, .ref (M 1), .ref (M 2), .ref aw, .ref al, .ref (M 3), .ref (M 4), .ref (M 5), .ref (M 6), .ref y, .int (nI nb), .int (nI ny), .int du, .int (mny + (s.2.1 + (tkK s v) * ltPrice ((s.2.2.2 v).1 0))), .int cl, .int (nI fd), .int ws]))], [(M 5, .inl (G.2.1 1, 2, .inl sh))], [(M 3, .inl (G.2.1 9, 2, .inr (.inr (.inr (.inr (rfN 2 rR))))))], famW 2 (fun ι => iaP G (rR ι) 12 ((va_up rm i ρ) ι)), [(M 4, .inl (G.2.1 0, 2, .inl (upd ir i (nI s.2.2.1.1))))]]) rfl ?_
                    refine V_iload_n hC dX11_sell_201 0 rfl ?_
                    exact V_iret hC hQ hr [2, 1, 0, 3, 4, 5, 6] (u := [[(M 0, .inr (12, [.int 0, .ref (M 1), .ref (M 2), .ref aw, .ref al, .ref (M 3), .ref (M 4), .ref (M 5), .ref (M 6), .ref y, .int (nI nb), .int (nI ny), .int du, .int (mny + (s.2.1 + (tkK s v) * ltPrice ((s.2.2.2 v).1 0))), .int cl, .int (nI fd), .int ws]))], alP G al bl ml Nl nl (fun κ => (Q (li κ)) 0), famW NC (fun ι => mcP G (Q ι) ((va_up mt (li v) (mvK (tkK s v) (mt (li v)))) ι)), [(M 5, .inl (G.2.1 1, 2, .inl sh))], [(M 3, .inl (G.2.1 9, 2, .inr (.inr (.inr (.inr (rfN 2 rR))))))], famW 2 (fun ι => iaP G (rR ι) 12 ((va_up rm i ρ) ι)), [(M 4, .inl (G.2.1 0, 2, .inl (upd ir i (nI s.2.2.1.1))))]]) (by decide) rfl (by decide) (by decide) dX11_sell_202 (Or.inr ⟨i, (tkT0 s v s.2.2.1), _, ρ, hi, rfl, hx, by first | exact (hsh i hi).symm.trans hs0 | exact ((hsh i hi).symm.trans hs0), tk_C (by omega) hts hpo hv hnl hx0 (sel_b hR hv hsk).1 (sel_b hR hv hsk).2, (sel_F hR hv), rfl, rfl⟩)
                · have hpr := pr4 h7
                  refine V_iconst hC dX11_sell_136 (v := 4) (by decide) ?_
                  refine V_goto hC dX11_sell_137 (tgt := 141) (by decide) ?_
                  refine V_imul hC dX11_sell_141 ?_
                  refine V_iadd hC dX11_sell_142 ?_
                  refine V_eqi (y := s.2.1 + (tkK s v) * ltPrice ((s.2.2.2 v).1 0)) (by rw [hpr]) ?_
                  refine V_istore_n hC dX11_sell_143 (L' := [(3, .int (s.2.1 + (tkK s v) * ltPrice ((s.2.2.2 v).1 0))), (4, .int (s.1 - (tkK s v))), (6, .int (tkK s v)), (5, .ref ((Q (li v)) 0)), (0, .ref (M 0)), (1, .int (nI i)), (2, .int x)]) (by decide) rfl ?_
                  refine V_aload hC dX11_sell_144 3 rfl ?_
                  refine V_get hC dX11_sell_146 inAX9 (mem_fam 0 0 rfl (li v) (hlv) rfl) rfl 10 (by decide) q1008 rfl (v := .int ((((va_up mt (li v) (mvK (tkK s v) (mt (li v)))) (li v)).1) 8)) rfl ?_
                  refine V_eqi (y := (s.2.2.2 v).1 4 - (tkK s v)) (by rw [va_up_eq]; show (mt (li v)).1 8 - (tkK s v) = _; rw [hlt9.2.2.2.2.1]) ?_
                  refine V_if_le hC dX11_sell_149 (tgt := 155) (by decide) (fun h9 => ?_) (fun h9 => ?_)
                  · have hsk := h9
                    refine V_aload_n hC dX11_sell_155 4 rfl ?_
                    refine V_get hC dX11_sell_156 inAX11 (mem_at 2 0 rfl rfl) rfl 6 (by decide) q1084 rfl (v := .ref (M 4)) rfl ?_
                    refine V_iload_n hC dX11_sell_159 5 rfl ?_
                    refine V_dup2 hC dX11_sell_160 rfl rfl ?_
                    refine V_iald hC dX11_sell_161 (mem_at 6 0 rfl rfl) (vp_in_nI (by omega) (by omega)) (x := i) (nI_clamp (by omega)) ?_
                    refine V_eqi (y := nI s.2.2.1.1) (pk_us) ?_
                    refine V_iconst hC dX11_sell_162 (v := 1) (by decide) ?_
                    refine V_isub hC dX11_sell_163 ?_
                    refine V_eqi (y := nI (s.2.2.1.1 - 1)) (pk_sub (b := 1) hc1) ?_
                    refine V_iast hC dX11_sell_164 6 0 rfl rfl (vp_in_nI (by omega) (by omega)) (z := i) (nI_clamp (by omega)) (ps' := [famW NC (fun ι => mcP G (Q ι) ((va_up mt (li v) (mvK (tkK s v) (mt (li v)))) ι)), alP G al bl ml Nl nl (fun κ => (Q (li κ)) 0), [(M 0, .inr (12, [.int 0, .ref (M 1), .ref (M 2), .ref aw, .ref al, .ref (M 3), .ref (M 4), .ref (M 5), .ref (M 6), .ref y, .int (nI nb), .int (nI ny), .int du, .int mny, .int cl, .int (nI fd), .int ws]))], [(M 5, .inl (G.2.1 1, 2, .inl sh))], [(M 3, .inl (G.2.1 9, 2, .inr (.inr (.inr (.inr (rfN 2 rR))))))], famW 2 (fun ι => iaP G (rR ι) 12 ((va_up rm i ρ) ι)), [(M 4, .inl (G.2.1 0, 2, .inl (upd (upd ir i (nI s.2.2.1.1)) i (nI (s.2.2.1.1 - 1)))))]]) rfl ?_
                    refine V_psEq (ps' := [famW NC (fun ι => mcP G (Q ι) ((va_up mt (li v) (mvK (tkK s v) (mt (li v)))) ι)), alP G al bl ml Nl nl (fun κ => (Q (li κ)) 0), [(M 0, .inr (12, [.int 0, .ref (M 1), .ref (M 2), .ref aw, .ref al, .ref (M 3), .ref (M 4), .ref (M 5), .ref (M 6), .ref y, .int (nI nb), .int (nI ny), .int du, .int mny, .int cl, .int (nI fd), .int ws]))], [(M 5, .inl (G.2.1 1, 2, .inl sh))], [(M 3, .inl (G.2.1 9, 2, .inr (.inr (.inr (.inr (rfN 2 rR))))))], famW 2 (fun ι => iaP G (rR ι) 12 ((va_up rm i ρ) ι)), [(M 4, .inl (G.2.1 0, 2, .inl (upd ir i (nI (s.2.2.1.1 - 1)))))]]) (by rw [upd_2]) ?_
                    refine V_aload_n hC dX11_sell_165 4 rfl ?_
                    refine V_get hC dX11_sell_166 inAX11 (mem_at 2 0 rfl rfl) rfl 5 (by decide) q1083 rfl (v := .ref (M 3)) rfl ?_
                    refine V_iload_n hC dX11_sell_169 5 rfl ?_
                    refine V_aaldI hC dX11_sell_170 (mem_at 4 0 rfl rfl) (vp_in_nI (by omega) (by omega)) (x := i) (nI_clamp (by omega)) (b := rR i) (rfN_at (hi)) ?_
                    refine V_iconst hC dX11_sell_171 (v := 1) (by decide) ?_
                    refine V_aload_n hC dX11_sell_172 4 rfl ?_
                    refine V_get hC dX11_sell_173 inAX11 (mem_at 2 0 rfl rfl) rfl 5 (by decide) q1083 rfl (v := .ref (M 3)) rfl ?_
                    refine V_iload_n hC dX11_sell_176 5 rfl ?_
                    refine V_aaldI hC dX11_sell_177 (mem_at 4 0 rfl rfl) (vp_in_nI (by omega) (by omega)) (x := i) (nI_clamp (by omega)) (b := rR i) (rfN_at (hi)) ?_
                    refine V_iconst hC dX11_sell_178 (v := 0) (by decide) ?_
                    refine V_aload_n hC dX11_sell_179 4 rfl ?_
                    refine V_get hC dX11_sell_180 inAX11 (mem_at 2 0 rfl rfl) rfl 6 (by decide) q1084 rfl (v := .ref (M 4)) rfl ?_
                    refine V_iload_n hC dX11_sell_183 5 rfl ?_
                    refine V_iald hC dX11_sell_184 (mem_at 6 0 rfl rfl) (vp_in_nI (by omega) (by omega)) (x := i) (nI_clamp (by omega)) ?_
                    refine V_eqi (y := nI (s.2.2.1.1 - 1)) (pk_us) ?_
                    refine V_sub [5, 0, 1, 2, 3, 4, 6] (by decide) (u := [famW 2 (fun ι => iaP G (rR ι) 12 ((va_up rm i ρ) ι)), famW NC (fun ι => mcP G (Q ι) ((va_up mt (li v) (mvK (tkK s v) (mt (li v)))) ι)), alP G al bl ml Nl nl (fun κ => (Q (li κ)) 0), [(M 0, .inr (12, [.int 0, .ref (M 1), .ref (M 2), .ref aw, .ref al, .ref (M 3), .ref (M 4), .ref (M 5), .ref (M 6), .ref y, .int (nI nb), .int (nI ny), .int du, .int mny, .int cl, .int (nI fd), .int ws]))], [(M 5, .inl (G.2.1 1, 2, .inl sh))], [(M 3, .inl (G.2.1 9, 2, .inr (.inr (.inr (.inr (rfN 2 rR))))))], [(M 4, .inl (G.2.1 0, 2, .inl (upd ir i (nI (s.2.2.1.1 - 1)))))]]) rfl ?_
                    refine V_open (i := i) (hi) ?_
                    refine V_copyi hC q1145 q1147 q1146 q63 (mem_at 0 0 rfl rfl) 0 0 rfl rfl 1 0 (s.2.2.1.1 - 1) (by rfl) (by rfl) (by rfl) (by omega) (by omega) (by first | decide | omega) (by first | decide | omega) (by decide) (by decide) (ps' := [iaP G (rR i) 12 (va_cpy ((va_up rm i ρ) i) ((va_up rm i ρ) i) 1 0 (s.2.2.1.1 - 1)), famX 2 i (fun ι => iaP G (rR ι) 12 ((va_up rm i ρ) ι)), famW NC (fun ι => mcP G (Q ι) ((va_up mt (li v) (mvK (tkK s v) (mt (li v)))) ι)), alP G al bl ml Nl nl (fun κ => (Q (li κ)) 0), [(M 0, .inr (12, [.int 0, .ref (M 1), .ref (M 2), .ref aw, .ref al, .ref (M 3), .ref (M 4), .ref (M 5), .ref (M 6), .ref y, .int (nI nb), .int (nI ny), .int du, .int mny, .int cl, .int (nI fd), .int ws]))], [(M 5, .inl (G.2.1 1, 2, .inl sh))], [(M 3, .inl (G.2.1 9, 2, .inr (.inr (.inr (.inr (rfN 2 rR))))))], [(M 4, .inl (G.2.1 0, 2, .inl (upd ir i (nI (s.2.2.1.1 - 1)))))]]) rfl dX11_sell_185 ?_
                    refine V_close (i := i) (g' := fun ι => iaP G (rR ι) 12 ((va_up rm i (va_cpy ρ ρ 1 0 (s.2.2.1.1 - 1))) ι)) (hi) (by simp [va_up]) (fun j _ hne => by simp [va_up, hne]) ?_
                    refine V_goto hC dX11_sell_188 (tgt := 57) (by decide) ?_
                    refine V_loc (L' := [(0, .ref (M 0)), (1, .int (nI i)), (2, .int x), (3, .int (s.2.1 + (tkK s v) * ltPrice ((s.2.2.2 v).1 0))), (4, .int (s.1 - (tkK s v)))]) [4, 5, 6, 0, 1] rfl ?_
                    refine V_sub [3, 2, 1, 4, 5, 0, 6] (by decide) (u := [[(M 0, .inr (12, [.int 0, .ref (M 1), .ref (M 2), .ref aw, .ref al, .ref (M 3), .ref (M 4), .ref (M 5), .ref (M 6), .ref y, .int (nI nb), .int (nI ny), .int du, .int mny, .int cl, .int (nI fd), .int ws]))], alP G al bl ml Nl nl (fun κ => (Q (li κ)) 0), famW NC (fun ι => mcP G (Q ι) ((va_up mt (li v) (mvK (tkK s v) (mt (li v)))) ι)), [(M 5, .inl (G.2.1 1, 2, .inl sh))], [(M 3, .inl (G.2.1 9, 2, .inr (.inr (.inr (.inr (rfN 2 rR))))))], famW 2 (fun ι => iaP G (rR ι) 12 ((va_up rm i (va_cpy ρ ρ 1 0 (s.2.2.1.1 - 1))) ι)), [(M 4, .inl (G.2.1 0, 2, .inl (upd ir i (nI (s.2.2.1.1 - 1)))))]]) rfl ?_
                    have hz0 := sel_z hR hv hsk
                    have hR2 := sel_T hR hv hc1 hz0
                    have ht2 := tk_go hts hpo hv hnl hx0
                    have e9 : (tkT s v).2.2.1.1 = s.2.2.1.1 - 1 := by show (if _ then siRem _ else _ : SV).1 = _; rw [if_pos hz0]; rfl
                    have hh := ih (t + 1) (tkT s v) _ (va_cpy ρ ρ 1 0 (s.2.2.1.1 - 1)) ht2 (by rw [e9]; omega) hR2 (by omega)
                    rw [e9] at hh
                    exact hh
                  · have hsk := h9
                    refine V_goto hC dX11_sell_152 (tgt := 191) (by decide) ?_
                    refine V_aload_n hC dX11_sell_191 4 rfl ?_
                    refine V_dup hC dX11_sell_192 rfl ?_
                    refine V_get hC dX11_sell_193 inAX11 (mem_at 2 0 rfl rfl) rfl 13 (by decide) q1091 rfl (v := .int mny) rfl ?_
                    refine V_iload_n hC dX11_sell_196 0 rfl ?_
                    refine V_iadd hC dX11_sell_197 ?_
                    refine V_put hC dX11_sell_198 inAX11 tyX11 tyX11_ok nmX11 2 0 rfl rfl rfl 13 (by decide) q1091 rfl rfl (rfl) (rfl) (Nat.le_of_ble_eq_true rfl) (ps' := [famW NC (fun ι => mcP G (Q ι) ((va_up mt (li v) (mvK (tkK s v) (mt (li v)))) ι)), alP G al bl ml Nl nl (fun κ => (Q (li κ)) 0), [(M 0, .inr (12, [.int 0, .ref (M 1), .ref (M 2), .ref aw, .ref al, .ref (M 3), .ref (M 4), .ref (M 5), .ref (M 6), .ref y, .int (nI nb), .int (nI ny), .int du, .int (mny + (s.2.1 + (tkK s v) * ltPrice ((s.2.2.2 v).1 0))), .int cl, .int (nI fd), .int ws]))], [(M 5, .inl (G.2.1 1, 2, .inl sh))], [(M 3, .inl (G.2.1 9, 2, .inr (.inr (.inr (.inr (rfN 2 rR))))))], famW 2 (fun ι => iaP G (rR ι) 12 ((va_up rm i ρ) ι)), [(M 4, .inl (G.2.1 0, 2, .inl (upd ir i (nI s.2.2.1.1))))]]) rfl ?_
                    refine V_iload_n hC dX11_sell_201 0 rfl ?_
                    exact V_iret hC hQ hr [2, 1, 0, 3, 4, 5, 6] (u := [[(M 0, .inr (12, [.int 0, .ref (M 1), .ref (M 2), .ref aw, .ref al, .ref (M 3), .ref (M 4), .ref (M 5), .ref (M 6), .ref y, .int (nI nb), .int (nI ny), .int du, .int (mny + (s.2.1 + (tkK s v) * ltPrice ((s.2.2.2 v).1 0))), .int cl, .int (nI fd), .int ws]))], alP G al bl ml Nl nl (fun κ => (Q (li κ)) 0), famW NC (fun ι => mcP G (Q ι) ((va_up mt (li v) (mvK (tkK s v) (mt (li v)))) ι)), [(M 5, .inl (G.2.1 1, 2, .inl sh))], [(M 3, .inl (G.2.1 9, 2, .inr (.inr (.inr (.inr (rfN 2 rR))))))], famW 2 (fun ι => iaP G (rR ι) 12 ((va_up rm i ρ) ι)), [(M 4, .inl (G.2.1 0, 2, .inl (upd ir i (nI s.2.2.1.1))))]]) (by decide) rfl (by decide) (by decide) dX11_sell_202 (Or.inr ⟨i, (tkT0 s v s.2.2.1), _, ρ, hi, rfl, hx, by first | exact (hsh i hi).symm.trans hs0 | exact ((hsh i hi).symm.trans hs0), tk_C (by omega) hts hpo hv hnl hx0 (sel_b hR hv hsk).1 (sel_b hR hv hsk).2, (sel_F hR hv), rfl, rfl⟩)
        refine V_loc (L' := [(0, .ref (M 0)), (1, .int (nI i)), (2, .int x), (3, .int 0), (4, .int x)]) [2, 3, 4, 1, 0] rfl ?_
        exact loop4 14 0 (x, 0, sz i, lz) mz (rm i) rfl (by show 0 + (sz i).1 ≤ 12; have := hs12 i hi; omega) ⟨⟨a9, hb9, ex9⟩, hskr, hrw i hi, hL, fun _ _ => rfl, hrm i hi⟩ (by omega)
      · have hs0 : ¬ sh i = 0 := h3
        refine V_aload_n hC dX11_sell_46 0 rfl ?_
        refine V_iconst hC dX11_sell_47 (v := 3) (by decide) ?_
        refine V_calli hC (V_runV hC (rest := []) [.int 3] (c_X11_no l G M 0 du mny cl ws nb ny fd aw al y 3) [0] rfl (by decide) q1141 q1143 q20 q52 q1144 ⟨by decide, by decide, rfl⟩ ⟨by decide, by decide⟩ (ci := 12) rfl (mem_at 0 0 rfl rfl) rfl (Nat.le_of_ble_eq_true rfl) ⟨by decide, by decide⟩ dX11_sell_48) (is := [0]) rfl [1, 2, 3, 4, 5, 6] (rs := [alP G al bl ml Nl nl (fun κ => (Q (li κ)) 0), famW NC (fun ι => mcP G (Q ι) (mz ι)), [(M 5, .inl (G.2.1 1, 2, .inl sh))], [(M 3, .inl (G.2.1 9, 2, .inr (.inr (.inr (.inr (rfN 2 rR))))))], famW 2 (fun ι => iaP G (rR ι) 12 (rm ι)), [(M 4, .inl (G.2.1 0, 2, .inl ir))]]) rfl (by decide) (by decide) ?_
        rintro _ _ ⟨rfl, rfl⟩
        exact V_iret hC hQ hr [0, 1, 2, 3, 4, 5, 6] (u := [[(M 0, .inr (12, [.int 3, .ref (M 1), .ref (M 2), .ref aw, .ref al, .ref (M 3), .ref (M 4), .ref (M 5), .ref (M 6), .ref y, .int (nI nb), .int (nI ny), .int du, .int mny, .int cl, .int (nI fd), .int ws]))], alP G al bl ml Nl nl (fun κ => (Q (li κ)) 0), famW NC (fun ι => mcP G (Q ι) (mz ι)), [(M 5, .inl (G.2.1 1, 2, .inl sh))], [(M 3, .inl (G.2.1 9, 2, .inr (.inr (.inr (.inr (rfN 2 rR))))))], famW 2 (fun ι => iaP G (rR ι) 12 (rm ι)), [(M 4, .inl (G.2.1 0, 2, .inl ir))]]) (by decide) rfl (by decide) (by decide) dX11_sell_51 (Or.inl ⟨3, Or.inr (Or.inr ⟨rfl, hib, hx, by rw [nI_clamp (by omega), ← hsh i hi]; exact hs0⟩), rfl, rfl⟩)
    · refine V_aload_n hC dX11_sell_31 0 rfl ?_
      refine V_iconst hC dX11_sell_32 (v := 2) (by decide) ?_
      refine V_calli hC (V_runV hC (rest := []) [.int 2] (c_X11_no l G M 0 du mny cl ws nb ny fd aw al y 2) [0] rfl (by decide) q1141 q1143 q20 q52 q1144 ⟨by decide, by decide, rfl⟩ ⟨by decide, by decide⟩ (ci := 12) rfl (mem_at 0 0 rfl rfl) rfl (Nat.le_of_ble_eq_true rfl) ⟨by decide, by decide⟩ dX11_sell_33) (is := [0]) rfl [1, 2, 3, 4, 5, 6] (rs := [alP G al bl ml Nl nl (fun κ => (Q (li κ)) 0), famW NC (fun ι => mcP G (Q ι) (mz ι)), [(M 5, .inl (G.2.1 1, 2, .inl sh))], [(M 3, .inl (G.2.1 9, 2, .inr (.inr (.inr (.inr (rfN 2 rR))))))], famW 2 (fun ι => iaP G (rR ι) 12 (rm ι)), [(M 4, .inl (G.2.1 0, 2, .inl ir))]]) rfl (by decide) (by decide) ?_
      rintro _ _ ⟨rfl, rfl⟩
      exact V_iret hC hQ hr [0, 1, 2, 3, 4, 5, 6] (u := [[(M 0, .inr (12, [.int 2, .ref (M 1), .ref (M 2), .ref aw, .ref al, .ref (M 3), .ref (M 4), .ref (M 5), .ref (M 6), .ref y, .int (nI nb), .int (nI ny), .int du, .int mny, .int cl, .int (nI fd), .int ws]))], alP G al bl ml Nl nl (fun κ => (Q (li κ)) 0), famW NC (fun ι => mcP G (Q ι) (mz ι)), [(M 5, .inl (G.2.1 1, 2, .inl sh))], [(M 3, .inl (G.2.1 9, 2, .inr (.inr (.inr (.inr (rfN 2 rR))))))], famW 2 (fun ι => iaP G (rR ι) 12 (rm ι)), [(M 4, .inl (G.2.1 0, 2, .inl ir))]]) (by decide) rfl (by decide) (by decide) dX11_sell_36 (Or.inl ⟨2, Or.inr (Or.inl ⟨rfl, hib, moIn_n h2⟩), rfl, rfl⟩)
  · refine V_aload_n hC dX11_sell_14 0 rfl ?_
    refine V_iconst hC dX11_sell_15 (v := 1) (by decide) ?_
    refine V_calli hC (V_runV hC (rest := []) [.int 1] (c_X11_no l G M 0 du mny cl ws nb ny fd aw al y 1) [0] rfl (by decide) q1141 q1143 q20 q52 q1144 ⟨by decide, by decide, rfl⟩ ⟨by decide, by decide⟩ (ci := 12) rfl (mem_at 0 0 rfl rfl) rfl (Nat.le_of_ble_eq_true rfl) ⟨by decide, by decide⟩ dX11_sell_16) (is := [0]) rfl [1, 2, 3, 4, 5, 6] (rs := [alP G al bl ml Nl nl (fun κ => (Q (li κ)) 0), famW NC (fun ι => mcP G (Q ι) (mz ι)), [(M 5, .inl (G.2.1 1, 2, .inl sh))], [(M 3, .inl (G.2.1 9, 2, .inr (.inr (.inr (.inr (rfN 2 rR))))))], famW 2 (fun ι => iaP G (rR ι) 12 (rm ι)), [(M 4, .inl (G.2.1 0, 2, .inl ir))]]) rfl (by decide) (by decide) ?_
    rintro _ _ ⟨rfl, rfl⟩
    exact V_iret hC hQ hr [0, 1, 2, 3, 4, 5, 6] (u := [[(M 0, .inr (12, [.int 1, .ref (M 1), .ref (M 2), .ref aw, .ref al, .ref (M 3), .ref (M 4), .ref (M 5), .ref (M 6), .ref y, .int (nI nb), .int (nI ny), .int du, .int mny, .int cl, .int (nI fd), .int ws]))], alP G al bl ml Nl nl (fun κ => (Q (li κ)) 0), famW NC (fun ι => mcP G (Q ι) (mz ι)), [(M 5, .inl (G.2.1 1, 2, .inl sh))], [(M 3, .inl (G.2.1 9, 2, .inr (.inr (.inr (.inr (rfN 2 rR))))))], famW 2 (fun ι => iaP G (rR ι) 12 (rm ι)), [(M 4, .inl (G.2.1 0, 2, .inl ir))]]) (by decide) rfl (by decide) (by decide) dX11_sell_19 (Or.inl ⟨1, Or.inl ⟨rfl, moIn_n h1⟩, rfl, rfl⟩)
