/-! ===== what is sold ===== -/
abbrev SK : Type := Int32 × Int32 × SV × (Nat → LV)
def ltSold (k : Int32) (z : LV) : LV := (hv5 (z.1 0) (z.1 1) (z.1 2) (z.1 3) (z.1 4 - k), z.2.1, z.2.2)
def siRem (z : SV) : SV := (z.1 - 1, z.2.1, siSh z.2.2 (z.1 - 1))
abbrev tkX (s : SK) : Int32 := siAt s.2.2.1.2.2 s.2.2.1.1 0
abbrev tkGo (nl : Nat) (s : SK) : Prop := ¬ s.1 ≤ 0 ∧ ¬ ixB (tkX s) (nI nl) = 0
def tkK (s : SK) (i : Nat) : Int32 := mn s.1 ((s.2.2.2 i).1 4)
def tkT (s : SK) (i : Nat) : SK := (s.1 - tkK s i, s.2.1 + tkK s i * ltPrice ((s.2.2.2 i).1 0), if (s.2.2.2 i).1 4 - tkK s i = 0 then siRem s.2.2.1 else s.2.2.1, va_up s.2.2.2 i (ltSold (tkK s i) (s.2.2.2 i)))
def tkS (nl : Nat) (s : SK) : SK := if tkGo nl s then tkT s (tkX s).toNatClampNeg else s
def tkI (nl : Nat) : Nat → SK → SK
  | 0, s => s
  | t + 1, s => tkS nl (tkI nl t s)
theorem tkI_stuck {nl t : Nat} {s : SK} (h : ¬ tkGo nl (tkI nl t s)) : ∀ {k : Nat}, t ≤ k → tkI nl k s = tkI nl t s := by
  intro k hk
  induction k with
  | zero => obtain rfl : t = 0 := by omega
            rfl
  | succ k ih =>
    by_cases e : t = k + 1
    · rw [e]
    · show tkS nl (tkI nl k s) = _
      rw [ih (by omega)]
      exact if_neg h
theorem tkS_go {nl i : Nat} {s : SK} (h0 : ¬ s.1 ≤ 0) (hi : i < nl) (hnl : nl ≤ 12) (hs : tkX s = nI i) : tkS nl s = tkT s i := by
  have hb : ixB (tkX s) (nI nl) = 1 := by rw [hs]; exact ixB_in (N := nl) hi
  unfold tkS
  rw [if_pos ⟨h0, by rw [hb]; decide⟩, hs, nI_clamp (by omega)]
theorem tkI_n {nl : Nat} {s : SK} (h : s.2.2.1.1 ≤ 12) : ∀ t, (tkI nl t s).2.2.1.1 ≤ 12
  | 0 => h
  | t + 1 => by
    have hh := tkI_n (nl := nl) h t
    show (tkS nl (tkI nl t s)).2.2.1.1 ≤ 12
    unfold tkS
    split
    · show (if _ then siRem _ else _ : SV).1 ≤ 12
      split
      · show _ - 1 ≤ 12; omega
      · exact hh
    · exact hh
theorem siAt_pos {f : Nat → Int32} {n i : Nat} (hi : i < 12) (h : siAt f n 0 = nI i) : 1 ≤ n := by
  refine Nat.pos_of_ne_zero (fun e => ?_)
  subst e
  have e : siAt f 0 0 = -1 := by unfold siAt; exact if_pos rfl
  rw [e] at h
  have h2 : (-1 : Int32).toInt = (nI i).toInt := by rw [h]
  rw [nI_toInt (by omega)] at h2
  have h3 : (-1 : Int32).toInt = -1 := rfl
  omega
set_option maxHeartbeats 4000000 in
set_option maxRecDepth 100000 in
/-- ClinkerWorks.takeSacks -/
theorem c_X8_takeSacks (l : Launch) (G : VG) (X : Nat → Nat) (nb nl : Nat) (du mo cl : Int32) (T : Nat → Nat → Nat) (lz : Nat → LV) (q : Nat → Nat) (z : SV) (x : Int32) (hnl : nl ≤ 12) (hz : z.1 ≤ 12) : Mi l G yX8_takeSacks cX8_takeSacks 9 .int 2 42 0 0 [.ref (X 0), .ref (q 0), .int x] [[(X 0, .inr (9, [.ref (X 1), .int (nI nb), .ref (X 2), .ref (X 6), .ref (X 8), .ref (X 10), .ref (X 14), .ref (X 18), .int (nI nl), .int du, .ref (X 19), .int mo, .ref (X 20), .int cl]))], slP G q z, [(X 18, .inl (G.2.1 5, 12, .inr (.inr (.inr (.inr (refA 12 T))))))], famW 12 (fun ι => ltP G (T ι) (lz ι))] (fun r u => ∃ w : SK, w = (tkI nl 12 (x, 0, z, lz)) ∧ r = w.2.1 ∧ u = [[(X 0, .inr (9, [.ref (X 1), .int (nI nb), .ref (X 2), .ref (X 6), .ref (X 8), .ref (X 10), .ref (X 14), .ref (X 18), .int (nI nl), .int du, .ref (X 19), .int mo, .ref (X 20), .int cl]))], slP G q w.2.2.1, [(X 18, .inl (G.2.1 5, 12, .inr (.inr (.inr (.inr (refA 12 T))))))], famW 12 (fun ι => ltP G (T ι) (w.2.2.2 ι))]) := by
  refine Mi_of (by decide) (Nat.le_of_ble_eq_true rfl) (fun pP eE sS mM aA bB tT cC AA QQ hC hr hnm hQ => ?_)
  refine V_iload_n hC dX8_takeSacks_0 2 rfl ?_
  refine V_istore_n hC dX8_takeSacks_1 (L' := [(3, .int x), (0, .ref (X 0)), (1, .ref (q 0)), (2, .int x)]) (by decide) rfl ?_
  refine V_iconst hC dX8_takeSacks_2 (v := 0) (by decide) ?_
  refine V_istore hC dX8_takeSacks_3 (L' := [(4, .int 0), (3, .int x), (0, .ref (X 0)), (1, .ref (q 0)), (2, .int x)]) (by decide) rfl ?_
  refine V_iconst hC dX8_takeSacks_5 (v := 0) (by decide) ?_
  refine V_istore hC dX8_takeSacks_6 (L' := [(5, .int 0), (4, .int 0), (3, .int x), (0, .ref (X 0)), (1, .ref (q 0)), (2, .int x)]) (by decide) rfl ?_
  have loop1 : ∀ (fuel : Nat) (t : Nat) (ht : t ≤ 12) (_ : 12 - t < fuel), V pP l eE { frames := 2, cells := 0, slots := 0, locals := 42 } sS mM aA bB tT cC QQ G AA 9 [[(X 0, .inr (9, [.ref (X 1), .int (nI nb), .ref (X 2), .ref (X 6), .ref (X 8), .ref (X 10), .ref (X 14), .ref (X 18), .int (nI nl), .int du, .ref (X 19), .int mo, .ref (X 20), .int cl]))], slP G q (tkI nl t (x, 0, z, lz)).2.2.1, [(X 18, .inl (G.2.1 5, 12, .inr (.inr (.inr (.inr (refA 12 T))))))], famW 12 (fun ι => ltP G (T ι) (((tkI nl t (x, 0, z, lz)).2.2.2) ι))] 0 0 8 [(0, .ref (X 0)), (1, .ref (q 0)), (2, .int x), (3, .int ((tkI nl t (x, 0, z, lz)).1)), (4, .int ((tkI nl t (x, 0, z, lz)).2.1)), (5, .int (nI t))] [] := by
    intro fuel
    induction fuel with
    | zero => intro t ht hm; exact absurd hm (Nat.not_lt_zero _)
    | succ fuel ih =>
      intro t ht hm
      refine V_iload hC dX8_takeSacks_8 5 rfl ?_
      refine V_bipush hC dX8_takeSacks_10 (v := 12) (by decide) ?_
      refine V_icmp_ge hC dX8_takeSacks_12 (tgt := 109) (by decide) (fun h2 => ?_) (fun h2 => ?_)
      · have he : t = 12 := by have := nle (a := 12) h2; omega
        rw [he]
        refine V_iload hC dX8_takeSacks_109 4 rfl ?_
        exact V_iret hC hQ hr [0, 1, 2, 3] (u := [[(X 0, .inr (9, [.ref (X 1), .int (nI nb), .ref (X 2), .ref (X 6), .ref (X 8), .ref (X 10), .ref (X 14), .ref (X 18), .int (nI nl), .int du, .ref (X 19), .int mo, .ref (X 20), .int cl]))], slP G q (tkI nl 12 (x, 0, z, lz)).2.2.1, [(X 18, .inl (G.2.1 5, 12, .inr (.inr (.inr (.inr (refA 12 T))))))], famW 12 (fun ι => ltP G (T ι) (((tkI nl 12 (x, 0, z, lz)).2.2.2) ι))]) (by decide) rfl (by decide) (by decide) dX8_takeSacks_111 (⟨(tkI nl 12 (x, 0, z, lz)), rfl, rfl, rfl⟩)
      · have hlt : t < 12 := nnle (a := 12) h2
        refine V_iload_n hC dX8_takeSacks_15 3 rfl ?_
        refine V_if_le hC dX8_takeSacks_16 (tgt := 109) (by decide) (fun h3 => ?_) (fun h3 => ?_)
        · have hle : (tkI nl t (x, 0, z, lz)).1 ≤ 0 := by first | exact h3 | exact i32_le h3
          rw [← tkI_stuck (k := 12) (fun e => e.1 hle) ht]
          refine V_iload hC dX8_takeSacks_109 4 rfl ?_
          exact V_iret hC hQ hr [0, 1, 2, 3] (u := [[(X 0, .inr (9, [.ref (X 1), .int (nI nb), .ref (X 2), .ref (X 6), .ref (X 8), .ref (X 10), .ref (X 14), .ref (X 18), .int (nI nl), .int du, .ref (X 19), .int mo, .ref (X 20), .int cl]))], slP G q (tkI nl 12 (x, 0, z, lz)).2.2.1, [(X 18, .inl (G.2.1 5, 12, .inr (.inr (.inr (.inr (refA 12 T))))))], famW 12 (fun ι => ltP G (T ι) (((tkI nl 12 (x, 0, z, lz)).2.2.2) ι))]) (by decide) rfl (by decide) (by decide) dX8_takeSacks_111 (⟨(tkI nl 12 (x, 0, z, lz)), rfl, rfl, rfl⟩)
        · have hpo : ¬ (tkI nl t (x, 0, z, lz)).1 ≤ 0 := by first | exact h3 | exact i32_nle h3
          refine V_aload_n hC dX8_takeSacks_19 1 rfl ?_
          refine V_iconst hC dX8_takeSacks_20 (v := 0) (by decide) ?_
          refine V_calli hC (V_runV hC (rest := []) [.int 0] (k_X6_lotAt l G q ((tkI nl t (x, 0, z, lz)).2.2.1) 0 (tkI_n hz t)) [1] rfl (by decide) q608 q609 q610 q51 q611 ⟨by decide, by decide, rfl⟩ ⟨by decide, by decide⟩ (ci := 7) rfl (mem_at 1 0 rfl rfl) rfl (Nat.le_of_ble_eq_true rfl) ⟨by decide, by decide⟩ dX8_takeSacks_21) (is := [1]) rfl [0, 2, 3] (rs := [[(X 0, .inr (9, [.ref (X 1), .int (nI nb), .ref (X 2), .ref (X 6), .ref (X 8), .ref (X 10), .ref (X 14), .ref (X 18), .int (nI nl), .int du, .ref (X 19), .int mo, .ref (X 20), .int cl]))], [(X 18, .inl (G.2.1 5, 12, .inr (.inr (.inr (.inr (refA 12 T))))))], famW 12 (fun ι => ltP G (T ι) (((tkI nl t (x, 0, z, lz)).2.2.2) ι))]) rfl (by decide) (by decide) ?_
          rintro _ _ ⟨rfl, rfl⟩
          refine V_istore hC dX8_takeSacks_24 (L' := [(6, .int (siAt ((tkI nl t (x, 0, z, lz)).2.2.1).2.2 ((tkI nl t (x, 0, z, lz)).2.2.1).1 0)), (0, .ref (X 0)), (1, .ref (q 0)), (2, .int x), (3, .int ((tkI nl t (x, 0, z, lz)).1)), (4, .int ((tkI nl t (x, 0, z, lz)).2.1)), (5, .int (nI t))]) (by decide) rfl ?_
          refine V_iload hC dX8_takeSacks_26 0 rfl ?_
          refine V_aload_n hC dX8_takeSacks_28 1 rfl ?_
          refine V_get hC dX8_takeSacks_29 inAX8 (mem_at 1 0 rfl rfl) rfl 8 (by decide) q318 rfl (v := .int (nI nl)) rfl ?_
          refine V_calli hC (V_runS hC (rest := []) [.int (siAt ((tkI nl t (x, 0, z, lz)).2.2.1).2.2 ((tkI nl t (x, 0, z, lz)).2.2.1).1 0), .int (nI nl)] (c_X8_isIndex l G (siAt ((tkI nl t (x, 0, z, lz)).2.2.1).2.2 ((tkI nl t (x, 0, z, lz)).2.2.1).1 0) (nI nl)) [] rfl (by decide) q483 q484 q43 q485 ⟨by decide, by decide, rfl⟩ ⟨by decide, by decide⟩ rfl (Nat.le_of_ble_eq_true rfl) ⟨by decide, by decide⟩ dX8_takeSacks_32) (is := []) rfl [0, 1, 2, 3] (rs := [slP G q ((tkI nl t (x, 0, z, lz)).2.2.1), [(X 0, .inr (9, [.ref (X 1), .int (nI nb), .ref (X 2), .ref (X 6), .ref (X 8), .ref (X 10), .ref (X 14), .ref (X 18), .int (nI nl), .int du, .ref (X 19), .int mo, .ref (X 20), .int cl]))], [(X 18, .inl (G.2.1 5, 12, .inr (.inr (.inr (.inr (refA 12 T))))))], famW 12 (fun ι => ltP G (T ι) (((tkI nl t (x, 0, z, lz)).2.2.2) ι))]) rfl (by decide) (by decide) ?_
          rintro _ _ ⟨rfl, rfl⟩
          refine V_if_ne hC dX8_takeSacks_35 (tgt := 41) (by decide) (fun h4 => ?_) (fun h4 => ?_)
          · obtain ⟨i, hi, hs⟩ := ixB_of (n := nl) (ixB_or.resolve_left (show ¬ ixB (tkX (tkI nl t (x, 0, z, lz))) (nI nl) = 0 from by first | exact h4 | exact Decidable.not_not.mp h4))
            refine V_aload_n hC dX8_takeSacks_41 1 rfl ?_
            refine V_get hC dX8_takeSacks_42 inAX8 (mem_at 1 0 rfl rfl) rfl 7 (by decide) q317 rfl (v := .ref (X 18)) rfl ?_
            refine V_iload hC dX8_takeSacks_45 0 rfl ?_
            refine V_eqi (y := nI i) (hs) ?_
            refine V_aald hC dX8_takeSacks_47 5 rfl (mem_at 2 0 rfl rfl) (vp_in_nI (by omega) (by omega)) (x := i) (nI_clamp (by omega)) (b := (T i) 0) (refA_at (by omega)) ?_
            refine V_sub [3, 0, 1, 2] (by decide) (u := [famW 12 (fun ι => ltP G (T ι) (((tkI nl t (x, 0, z, lz)).2.2.2) ι)), slP G q ((tkI nl t (x, 0, z, lz)).2.2.1), [(X 0, .inr (9, [.ref (X 1), .int (nI nb), .ref (X 2), .ref (X 6), .ref (X 8), .ref (X 10), .ref (X 14), .ref (X 18), .int (nI nl), .int du, .ref (X 19), .int mo, .ref (X 20), .int cl]))], [(X 18, .inl (G.2.1 5, 12, .inr (.inr (.inr (.inr (refA 12 T))))))]]) rfl ?_
            refine V_open (i := i) (by omega) ?_
            refine V_astore hC dX8_takeSacks_48 (L' := [(7, .ref ((T i) 0)), (6, .int (siAt ((tkI nl t (x, 0, z, lz)).2.2.1).2.2 ((tkI nl t (x, 0, z, lz)).2.2.1).1 0)), (0, .ref (X 0)), (1, .ref (q 0)), (2, .int x), (3, .int ((tkI nl t (x, 0, z, lz)).1)), (4, .int ((tkI nl t (x, 0, z, lz)).2.1)), (5, .int (nI t))]) (by decide) rfl ?_
            refine V_iload_n hC dX8_takeSacks_50 5 rfl ?_
            refine V_aload hC dX8_takeSacks_51 0 rfl ?_
            refine V_get hC dX8_takeSacks_53 inAX3 (mem_at 0 0 rfl rfl) rfl 5 (by decide) q276 rfl (v := .int (((((tkI nl t (x, 0, z, lz)).2.2.2) i).1) 4)) rfl ?_
            refine V_mmin hC q749 q629 q65 q630 (by decide) (Nat.le_of_ble_eq_true rfl) (by decide) (by decide) dX8_takeSacks_56 ?_
            refine V_istore hC dX8_takeSacks_59 (L' := [(8, .int (mn ((tkI nl t (x, 0, z, lz)).1) (((((tkI nl t (x, 0, z, lz)).2.2.2) i).1) 4))), (7, .ref ((T i) 0)), (6, .int (siAt ((tkI nl t (x, 0, z, lz)).2.2.1).2.2 ((tkI nl t (x, 0, z, lz)).2.2.1).1 0)), (0, .ref (X 0)), (1, .ref (q 0)), (2, .int x), (3, .int ((tkI nl t (x, 0, z, lz)).1)), (4, .int ((tkI nl t (x, 0, z, lz)).2.1)), (5, .int (nI t))]) (by decide) rfl ?_
            refine V_iload hC dX8_takeSacks_61 7 rfl ?_
            refine V_iload hC dX8_takeSacks_63 0 rfl ?_
            refine V_aload hC dX8_takeSacks_65 1 rfl ?_
            refine V_calli hC (V_runV hC (rest := [.int (mn ((tkI nl t (x, 0, z, lz)).1) (((((tkI nl t (x, 0, z, lz)).2.2.2) i).1) 4)), .int ((tkI nl t (x, 0, z, lz)).2.1)]) [] (k_X3_price l G (T i) (((tkI nl t (x, 0, z, lz)).2.2.2) i)) [0] rfl (by decide) q844 q845 q846 q50 q847 ⟨by decide, by decide, rfl⟩ ⟨by decide, by decide⟩ (ci := 4) rfl (mem_at 0 0 rfl rfl) rfl (Nat.le_of_ble_eq_true rfl) ⟨by decide, by decide⟩ dX8_takeSacks_67) (is := [0]) rfl [1, 2, 3, 4] (rs := [famX 12 i (fun ι => ltP G (T ι) (((tkI nl t (x, 0, z, lz)).2.2.2) ι)), slP G q ((tkI nl t (x, 0, z, lz)).2.2.1), [(X 0, .inr (9, [.ref (X 1), .int (nI nb), .ref (X 2), .ref (X 6), .ref (X 8), .ref (X 10), .ref (X 14), .ref (X 18), .int (nI nl), .int du, .ref (X 19), .int mo, .ref (X 20), .int cl]))], [(X 18, .inl (G.2.1 5, 12, .inr (.inr (.inr (.inr (refA 12 T))))))]]) rfl (by decide) (by decide) ?_
            rintro _ _ ⟨rfl, rfl⟩
            refine V_imul hC dX8_takeSacks_70 ?_
            refine V_iadd hC dX8_takeSacks_71 ?_
            refine V_istore hC dX8_takeSacks_72 (L' := [(4, .int (((tkI nl t (x, 0, z, lz)).2.1) + ((mn ((tkI nl t (x, 0, z, lz)).1) (((((tkI nl t (x, 0, z, lz)).2.2.2) i).1) 4)) * (ltPrice ((((tkI nl t (x, 0, z, lz)).2.2.2) i).1 0))))), (8, .int (mn ((tkI nl t (x, 0, z, lz)).1) (((((tkI nl t (x, 0, z, lz)).2.2.2) i).1) 4))), (7, .ref ((T i) 0)), (6, .int (siAt ((tkI nl t (x, 0, z, lz)).2.2.1).2.2 ((tkI nl t (x, 0, z, lz)).2.2.1).1 0)), (0, .ref (X 0)), (1, .ref (q 0)), (2, .int x), (3, .int ((tkI nl t (x, 0, z, lz)).1)), (5, .int (nI t))]) (by decide) rfl ?_
            refine V_aload hC dX8_takeSacks_74 2 rfl ?_
            refine V_dup hC dX8_takeSacks_76 rfl ?_
            refine V_get hC dX8_takeSacks_77 inAX3 (mem_at 0 0 rfl rfl) rfl 5 (by decide) q276 rfl (v := .int (((((tkI nl t (x, 0, z, lz)).2.2.2) i).1) 4)) rfl ?_
            refine V_iload hC dX8_takeSacks_80 1 rfl ?_
            refine V_isub hC dX8_takeSacks_82 ?_
            refine V_put hC dX8_takeSacks_83 inAX3 tyX3 tyX3_ok nmX3 0 0 rfl rfl rfl 5 (by decide) q276 rfl rfl (rfl) (rfl) (Nat.le_of_ble_eq_true rfl) (ps' := [ltP G (T i) (hv5 (((((tkI nl t (x, 0, z, lz)).2.2.2) i).1) 0) (((((tkI nl t (x, 0, z, lz)).2.2.2) i).1) 1) (((((tkI nl t (x, 0, z, lz)).2.2.2) i).1) 2) (((((tkI nl t (x, 0, z, lz)).2.2.2) i).1) 3) ((((((tkI nl t (x, 0, z, lz)).2.2.2) i).1) 4) - (mn ((tkI nl t (x, 0, z, lz)).1) (((((tkI nl t (x, 0, z, lz)).2.2.2) i).1) 4))), (((tkI nl t (x, 0, z, lz)).2.2.2) i).2.1, (((tkI nl t (x, 0, z, lz)).2.2.2) i).2.2), famX 12 i (fun ι => ltP G (T ι) (((tkI nl t (x, 0, z, lz)).2.2.2) ι)), slP G q ((tkI nl t (x, 0, z, lz)).2.2.1), [(X 0, .inr (9, [.ref (X 1), .int (nI nb), .ref (X 2), .ref (X 6), .ref (X 8), .ref (X 10), .ref (X 14), .ref (X 18), .int (nI nl), .int du, .ref (X 19), .int mo, .ref (X 20), .int cl]))], [(X 18, .inl (G.2.1 5, 12, .inr (.inr (.inr (.inr (refA 12 T))))))]]) rfl ?_
            refine V_iload_n hC dX8_takeSacks_86 7 rfl ?_
            refine V_iload hC dX8_takeSacks_87 1 rfl ?_
            refine V_isub hC dX8_takeSacks_89 ?_
            refine V_istore_n hC dX8_takeSacks_90 (L' := [(3, .int (((tkI nl t (x, 0, z, lz)).1) - (mn ((tkI nl t (x, 0, z, lz)).1) (((((tkI nl t (x, 0, z, lz)).2.2.2) i).1) 4)))), (4, .int (((tkI nl t (x, 0, z, lz)).2.1) + ((mn ((tkI nl t (x, 0, z, lz)).1) (((((tkI nl t (x, 0, z, lz)).2.2.2) i).1) 4)) * (ltPrice ((((tkI nl t (x, 0, z, lz)).2.2.2) i).1 0))))), (8, .int (mn ((tkI nl t (x, 0, z, lz)).1) (((((tkI nl t (x, 0, z, lz)).2.2.2) i).1) 4))), (7, .ref ((T i) 0)), (6, .int (siAt ((tkI nl t (x, 0, z, lz)).2.2.1).2.2 ((tkI nl t (x, 0, z, lz)).2.2.1).1 0)), (0, .ref (X 0)), (1, .ref (q 0)), (2, .int x), (5, .int (nI t))]) (by decide) rfl ?_
            refine V_aload hC dX8_takeSacks_91 3 rfl ?_
            refine V_get hC dX8_takeSacks_93 inAX3 (mem_at 0 0 rfl rfl) rfl 5 (by decide) q276 rfl (v := .int ((((((tkI nl t (x, 0, z, lz)).2.2.2) i).1) 4) - (mn ((tkI nl t (x, 0, z, lz)).1) (((((tkI nl t (x, 0, z, lz)).2.2.2) i).1) 4)))) rfl ?_
            refine V_if_ne hC dX8_takeSacks_96 (tgt := 103) (by decide) (fun h5 => ?_) (fun h5 => ?_)
            · refine V_psEq (ps' := [ltP G (T i) (ltSold (tkK (tkI nl t (x, 0, z, lz)) i) ((tkI nl t (x, 0, z, lz)).2.2.2 i)), famX 12 i (fun ι => ltP G (T ι) (((tkI nl t (x, 0, z, lz)).2.2.2) ι)), slP G q ((tkI nl t (x, 0, z, lz)).2.2.1), [(X 0, .inr (9, [.ref (X 1), .int (nI nb), .ref (X 2), .ref (X 6), .ref (X 8), .ref (X 10), .ref (X 14), .ref (X 18), .int (nI nl), .int du, .ref (X 19), .int mo, .ref (X 20), .int cl]))], [(X 18, .inl (G.2.1 5, 12, .inr (.inr (.inr (.inr (refA 12 T))))))]]) rfl ?_
              refine V_close (i := i) (g' := fun ι => ltP G (T ι) ((va_up (tkI nl t (x, 0, z, lz)).2.2.2 i (ltSold (tkK (tkI nl t (x, 0, z, lz)) i) ((tkI nl t (x, 0, z, lz)).2.2.2 i))) ι)) (by omega) (by simp [va_up]) (fun j _ hne => by simp [va_up, hne]) ?_
              refine V_iinc hC dX8_takeSacks_103 (v := nI (t + 1)) (L' := [(5, .int (nI (t + 1))), (3, .int (((tkI nl t (x, 0, z, lz)).1) - (mn ((tkI nl t (x, 0, z, lz)).1) (((((tkI nl t (x, 0, z, lz)).2.2.2) i).1) 4)))), (4, .int (((tkI nl t (x, 0, z, lz)).2.1) + ((mn ((tkI nl t (x, 0, z, lz)).1) (((((tkI nl t (x, 0, z, lz)).2.2.2) i).1) 4)) * (ltPrice ((((tkI nl t (x, 0, z, lz)).2.2.2) i).1 0))))), (8, .int (mn ((tkI nl t (x, 0, z, lz)).1) (((((tkI nl t (x, 0, z, lz)).2.2.2) i).1) 4))), (7, .ref ((T i) 0)), (6, .int (siAt ((tkI nl t (x, 0, z, lz)).2.2.1).2.2 ((tkI nl t (x, 0, z, lz)).2.2.1).1 0)), (0, .ref (X 0)), (1, .ref (q 0)), (2, .int x)]) (j := 8) rfl (nI_1 _) (by decide) rfl ?_
              refine V_goto hC dX8_takeSacks_106 (tgt := 8) (by decide) ?_
              refine V_loc (L' := [(0, .ref (X 0)), (1, .ref (q 0)), (2, .int x), (3, .int (((tkI nl t (x, 0, z, lz)).1) - (mn ((tkI nl t (x, 0, z, lz)).1) (((((tkI nl t (x, 0, z, lz)).2.2.2) i).1) 4)))), (4, .int (((tkI nl t (x, 0, z, lz)).2.1) + ((mn ((tkI nl t (x, 0, z, lz)).1) (((((tkI nl t (x, 0, z, lz)).2.2.2) i).1) 4)) * (ltPrice ((((tkI nl t (x, 0, z, lz)).2.2.2) i).1 0))))), (5, .int (nI (t + 1)))]) [6, 7, 8, 1, 2, 0] rfl ?_
              refine V_sub [2, 1, 3, 0] (by decide) (u := [[(X 0, .inr (9, [.ref (X 1), .int (nI nb), .ref (X 2), .ref (X 6), .ref (X 8), .ref (X 10), .ref (X 14), .ref (X 18), .int (nI nl), .int du, .ref (X 19), .int mo, .ref (X 20), .int cl]))], slP G q ((tkI nl t (x, 0, z, lz)).2.2.1), [(X 18, .inl (G.2.1 5, 12, .inr (.inr (.inr (.inr (refA 12 T))))))], famW 12 (fun ι => ltP G (T ι) ((va_up (tkI nl t (x, 0, z, lz)).2.2.2 i (ltSold (tkK (tkI nl t (x, 0, z, lz)) i) ((tkI nl t (x, 0, z, lz)).2.2.2 i))) ι))]) rfl ?_
              have hh := ih (t + 1) (by omega) (by omega)
              rw [show tkI nl (t + 1) (x, 0, z, lz) = tkT (tkI nl t (x, 0, z, lz)) i from tkS_go hpo hi hnl hs] at hh
              unfold tkT at hh
              rw [if_neg (show ¬ ((tkI nl t (x, 0, z, lz)).2.2.2 i).1 4 - (tkK (tkI nl t (x, 0, z, lz)) i) = 0 from h5)] at hh
              exact hh
            · refine V_psEq (ps' := [ltP G (T i) (hv5 (((((tkI nl t (x, 0, z, lz)).2.2.2) i).1) 0) (((((tkI nl t (x, 0, z, lz)).2.2.2) i).1) 1) (((((tkI nl t (x, 0, z, lz)).2.2.2) i).1) 2) (((((tkI nl t (x, 0, z, lz)).2.2.2) i).1) 3) ((((((tkI nl t (x, 0, z, lz)).2.2.2) i).1) 4) - (mn ((tkI nl t (x, 0, z, lz)).1) (((((tkI nl t (x, 0, z, lz)).2.2.2) i).1) 4))), (((tkI nl t (x, 0, z, lz)).2.2.2) i).2.1, (((tkI nl t (x, 0, z, lz)).2.2.2) i).2.2), famX 12 i (fun ι => ltP G (T ι) (((tkI nl t (x, 0, z, lz)).2.2.2) ι)), slP G q (((tkI nl t (x, 0, z, lz)).2.2.1.1 - 1) + 1, ((tkI nl t (x, 0, z, lz)).2.2.1.2.1), ((tkI nl t (x, 0, z, lz)).2.2.1.2.2)), [(X 0, .inr (9, [.ref (X 1), .int (nI nb), .ref (X 2), .ref (X 6), .ref (X 8), .ref (X 10), .ref (X 14), .ref (X 18), .int (nI nl), .int du, .ref (X 19), .int mo, .ref (X 20), .int cl]))], [(X 18, .inl (G.2.1 5, 12, .inr (.inr (.inr (.inr (refA 12 T))))))]]) (by rw [Nat.sub_add_cancel (siAt_pos (by omega) hs)]) ?_
              refine V_aload_n hC dX8_takeSacks_99 6 rfl ?_
              refine V_callv hC (V_runV hC (rest := []) [] (k_X6_removeFirst l G q ((tkI nl t (x, 0, z, lz)).2.2.1.1 - 1) ((tkI nl t (x, 0, z, lz)).2.2.1.2.1) ((tkI nl t (x, 0, z, lz)).2.2.1.2.2) (by have := tkI_n (nl := nl) (s := (x, 0, z, lz)) hz t; have := siAt_pos (by omega) hs; omega)) [2] rfl (by decide) q848 q849 q850 q51 q851 ⟨by decide, by decide, rfl⟩ ⟨by decide, by decide⟩ (ci := 7) rfl (mem_at 2 0 rfl rfl) rfl (Nat.le_of_ble_eq_true rfl) ⟨by decide, by decide⟩ dX8_takeSacks_100) (is := [2]) rfl [0, 1, 3, 4] (rs := [ltP G (T i) (hv5 (((((tkI nl t (x, 0, z, lz)).2.2.2) i).1) 0) (((((tkI nl t (x, 0, z, lz)).2.2.2) i).1) 1) (((((tkI nl t (x, 0, z, lz)).2.2.2) i).1) 2) (((((tkI nl t (x, 0, z, lz)).2.2.2) i).1) 3) ((((((tkI nl t (x, 0, z, lz)).2.2.2) i).1) 4) - (mn ((tkI nl t (x, 0, z, lz)).1) (((((tkI nl t (x, 0, z, lz)).2.2.2) i).1) 4))), (((tkI nl t (x, 0, z, lz)).2.2.2) i).2.1, (((tkI nl t (x, 0, z, lz)).2.2.2) i).2.2), famX 12 i (fun ι => ltP G (T ι) (((tkI nl t (x, 0, z, lz)).2.2.2) ι)), [(X 0, .inr (9, [.ref (X 1), .int (nI nb), .ref (X 2), .ref (X 6), .ref (X 8), .ref (X 10), .ref (X 14), .ref (X 18), .int (nI nl), .int du, .ref (X 19), .int mo, .ref (X 20), .int cl]))], [(X 18, .inl (G.2.1 5, 12, .inr (.inr (.inr (.inr (refA 12 T))))))]]) rfl (by decide) (by decide) ?_
              rintro _ rfl
              refine V_psEq (ps' := [slP G q (siRem (tkI nl t (x, 0, z, lz)).2.2.1), ltP G (T i) (ltSold (tkK (tkI nl t (x, 0, z, lz)) i) ((tkI nl t (x, 0, z, lz)).2.2.2 i)), famX 12 i (fun ι => ltP G (T ι) (((tkI nl t (x, 0, z, lz)).2.2.2) ι)), [(X 0, .inr (9, [.ref (X 1), .int (nI nb), .ref (X 2), .ref (X 6), .ref (X 8), .ref (X 10), .ref (X 14), .ref (X 18), .int (nI nl), .int du, .ref (X 19), .int mo, .ref (X 20), .int cl]))], [(X 18, .inl (G.2.1 5, 12, .inr (.inr (.inr (.inr (refA 12 T))))))]]) rfl ?_
              refine V_sub [1, 2, 0, 3, 4] (by decide) (u := [ltP G (T i) (ltSold (tkK (tkI nl t (x, 0, z, lz)) i) ((tkI nl t (x, 0, z, lz)).2.2.2 i)), famX 12 i (fun ι => ltP G (T ι) (((tkI nl t (x, 0, z, lz)).2.2.2) ι)), slP G q (siRem (tkI nl t (x, 0, z, lz)).2.2.1), [(X 0, .inr (9, [.ref (X 1), .int (nI nb), .ref (X 2), .ref (X 6), .ref (X 8), .ref (X 10), .ref (X 14), .ref (X 18), .int (nI nl), .int du, .ref (X 19), .int mo, .ref (X 20), .int cl]))], [(X 18, .inl (G.2.1 5, 12, .inr (.inr (.inr (.inr (refA 12 T))))))]]) rfl ?_
              refine V_close (i := i) (g' := fun ι => ltP G (T ι) ((va_up (tkI nl t (x, 0, z, lz)).2.2.2 i (ltSold (tkK (tkI nl t (x, 0, z, lz)) i) ((tkI nl t (x, 0, z, lz)).2.2.2 i))) ι)) (by omega) (by simp [va_up]) (fun j _ hne => by simp [va_up, hne]) ?_
              refine V_iinc hC dX8_takeSacks_103 (v := nI (t + 1)) (L' := [(5, .int (nI (t + 1))), (3, .int (((tkI nl t (x, 0, z, lz)).1) - (mn ((tkI nl t (x, 0, z, lz)).1) (((((tkI nl t (x, 0, z, lz)).2.2.2) i).1) 4)))), (4, .int (((tkI nl t (x, 0, z, lz)).2.1) + ((mn ((tkI nl t (x, 0, z, lz)).1) (((((tkI nl t (x, 0, z, lz)).2.2.2) i).1) 4)) * (ltPrice ((((tkI nl t (x, 0, z, lz)).2.2.2) i).1 0))))), (8, .int (mn ((tkI nl t (x, 0, z, lz)).1) (((((tkI nl t (x, 0, z, lz)).2.2.2) i).1) 4))), (7, .ref ((T i) 0)), (6, .int (siAt ((tkI nl t (x, 0, z, lz)).2.2.1).2.2 ((tkI nl t (x, 0, z, lz)).2.2.1).1 0)), (0, .ref (X 0)), (1, .ref (q 0)), (2, .int x)]) (j := 8) rfl (nI_1 _) (by decide) rfl ?_
              refine V_goto hC dX8_takeSacks_106 (tgt := 8) (by decide) ?_
              refine V_loc (L' := [(0, .ref (X 0)), (1, .ref (q 0)), (2, .int x), (3, .int (((tkI nl t (x, 0, z, lz)).1) - (mn ((tkI nl t (x, 0, z, lz)).1) (((((tkI nl t (x, 0, z, lz)).2.2.2) i).1) 4)))), (4, .int (((tkI nl t (x, 0, z, lz)).2.1) + ((mn ((tkI nl t (x, 0, z, lz)).1) (((((tkI nl t (x, 0, z, lz)).2.2.2) i).1) 4)) * (ltPrice ((((tkI nl t (x, 0, z, lz)).2.2.2) i).1 0))))), (5, .int (nI (t + 1)))]) [6, 7, 8, 1, 2, 0] rfl ?_
              refine V_sub [2, 1, 3, 0] (by decide) (u := [[(X 0, .inr (9, [.ref (X 1), .int (nI nb), .ref (X 2), .ref (X 6), .ref (X 8), .ref (X 10), .ref (X 14), .ref (X 18), .int (nI nl), .int du, .ref (X 19), .int mo, .ref (X 20), .int cl]))], slP G q (siRem (tkI nl t (x, 0, z, lz)).2.2.1), [(X 18, .inl (G.2.1 5, 12, .inr (.inr (.inr (.inr (refA 12 T))))))], famW 12 (fun ι => ltP G (T ι) ((va_up (tkI nl t (x, 0, z, lz)).2.2.2 i (ltSold (tkK (tkI nl t (x, 0, z, lz)) i) ((tkI nl t (x, 0, z, lz)).2.2.2 i))) ι))]) rfl ?_
              have hh := ih (t + 1) (by omega) (by omega)
              rw [show tkI nl (t + 1) (x, 0, z, lz) = tkT (tkI nl t (x, 0, z, lz)) i from tkS_go hpo hi hnl hs] at hh
              unfold tkT at hh
              rw [if_pos (show ((tkI nl t (x, 0, z, lz)).2.2.2 i).1 4 - (tkK (tkI nl t (x, 0, z, lz)) i) = 0 from h5)] at hh
              exact hh
          · have hz0 : ixB (tkX (tkI nl t (x, 0, z, lz))) (nI nl) = 0 := by first | exact h4 | exact Decidable.not_not.mp h4
            rw [← tkI_stuck (k := 12) (fun e => e.2 hz0) ht]
            refine V_goto hC dX8_takeSacks_38 (tgt := 109) (by decide) ?_
            refine V_iload hC dX8_takeSacks_109 5 rfl ?_
            exact V_iret hC hQ hr [1, 0, 2, 3] (u := [[(X 0, .inr (9, [.ref (X 1), .int (nI nb), .ref (X 2), .ref (X 6), .ref (X 8), .ref (X 10), .ref (X 14), .ref (X 18), .int (nI nl), .int du, .ref (X 19), .int mo, .ref (X 20), .int cl]))], slP G q ((tkI nl 12 (x, 0, z, lz)).2.2.1), [(X 18, .inl (G.2.1 5, 12, .inr (.inr (.inr (.inr (refA 12 T))))))], famW 12 (fun ι => ltP G (T ι) (((tkI nl 12 (x, 0, z, lz)).2.2.2) ι))]) (by decide) rfl (by decide) (by decide) dX8_takeSacks_111 (⟨(tkI nl 12 (x, 0, z, lz)), rfl, rfl, rfl⟩)
  refine V_loc (L' := [(0, .ref (X 0)), (1, .ref (q 0)), (2, .int x), (3, .int x), (4, .int 0), (5, .int 0)]) [3, 4, 5, 2, 1, 0] rfl ?_
  exact loop1 13 0 (by omega) (by omega)
set_option maxHeartbeats 4000000 in
set_option maxRecDepth 100000 in
/-- ClinkerWorks.sell -/
theorem c_X8_sell (l : Launch) (hl0 : l.stackTraces = false) (G : VG) (X : Nat → Nat) (nb nl : Nat) (du mo cl : Int32) (T : Nat → Nat → Nat) (lz : Nat → LV) (Z : Nat → Nat → Nat) (sz : Nat → SV) (b x : Int32) (hnl : nl ≤ 12) (hz : ∀ j, j < 2 → (sz j).1 ≤ 12) : Xi l G yX8_sell cX8_sell 4 .int 7 104 3 18 [.ref (X 0), .int b, .int x] [[(X 0, .inr (9, [.ref (X 1), .int (nI nb), .ref (X 2), .ref (X 6), .ref (X 8), .ref (X 10), .ref (X 14), .ref (X 18), .int (nI nl), .int du, .ref (X 19), .int mo, .ref (X 20), .int cl]))], [(X 18, .inl (G.2.1 5, 12, .inr (.inr (.inr (.inr (refA 12 T))))))], famW 12 (fun ι => ltP G (T ι) (lz ι)), [(X 19, .inl (G.2.1 6, 2, .inr (.inr (.inr (.inr (refA 2 Z))))))], famW 2 (fun ι => slP G (Z ι) (sz ι))] (fun r u => ∃ i : Nat, i < 2 ∧ b = nI i ∧ inR 1 999 x ∧ (sz i).2.1 = 0 ∧ ∃ w : SK, w = tkI nl 12 (x, 0, sz i, lz) ∧ r = w.2.1 ∧ u = [[(X 0, .inr (9, [.ref (X 1), .int (nI nb), .ref (X 2), .ref (X 6), .ref (X 8), .ref (X 10), .ref (X 14), .ref (X 18), .int (nI nl), .int du, .ref (X 19), .int (mo + w.2.1), .ref (X 20), .int cl]))], [(X 18, .inl (G.2.1 5, 12, .inr (.inr (.inr (.inr (refA 12 T))))))], famW 12 (fun ι => ltP G (T ι) (w.2.2.2 ι)), [(X 19, .inl (G.2.1 6, 2, .inr (.inr (.inr (.inr (refA 2 Z))))))], famW 2 (fun ι => slP G (Z ι) ((va_up sz i w.2.2.1) ι))]) (fun E => (eIX E ∧ ixB b 2 = 0) ∨ (eIA E ∧ ixB b 2 = 1 ∧ ¬ inR 1 999 x) ∨ (eIS E ∧ ixB b 2 = 1 ∧ inR 1 999 x ∧ ¬ (sz b.toNatClampNeg).2.1 = 0)) := by
  refine Xi_of (by decide) (Nat.le_of_ble_eq_true rfl) (fun pP eE sS mM aA bB tT cC AA QQ hC hr hT hQ => ?_)
  refine V_iload_n hC dX8_sell_0 1 rfl ?_
  refine V_iconst hC dX8_sell_1 (v := 2) (by decide) ?_
  refine V_xcallS hC hT hQ [.int b, .int 2] (c_X8_needIndex l hl0 G b 2) dX8_sell_2 q480 q481 q43 q482 ⟨by decide, by decide, rfl⟩ ⟨by decide, by decide⟩ rfl (Nat.le_of_ble_eq_true rfl) ⟨by decide, by decide⟩ rfl (by decide) (by decide) [0, 1, 2, 3, 4] (by decide) rfl (fun E hE => Or.inl hE) ?_ (fun u hu => hu.2)
  rintro _ ⟨hk1, rfl⟩ -
  refine V_iload_n hC dX8_sell_5 2 rfl ?_
  refine V_iconst hC dX8_sell_6 (v := 1) (by decide) ?_
  refine V_sipush hC dX8_sell_7 (v := 999) (by decide) ?_
  refine V_xcallS hC hT hQ [.int x, .int 1, .int 999] (c_X8_needArgument l hl0 G x 1 999) dX8_sell_10 q390 q391 q43 q392 ⟨by decide, by decide, rfl⟩ ⟨by decide, by decide⟩ rfl (Nat.le_of_ble_eq_true rfl) ⟨by decide, by decide⟩ rfl (by decide) (by decide) [0, 1, 2, 3, 4] (by decide) rfl (fun E hE => Or.inr (Or.inl ⟨hE.1, hk1, hE.2⟩)) ?_ (fun u hu => hu.2)
  rintro _ ⟨hk2, rfl⟩ -
  have hk1b := hk1
  obtain ⟨i, hi, rfl⟩ := ixB_of (n := 2) hk1
  refine V_aload_n hC dX8_sell_13 0 rfl ?_
  refine V_get hC dX8_sell_14 inAX8 (mem_at 0 0 rfl rfl) rfl 10 (by decide) q320 rfl (v := .ref (X 19)) rfl ?_
  refine V_iload_n hC dX8_sell_17 1 rfl ?_
  refine V_aald hC dX8_sell_18 6 rfl (mem_at 3 0 rfl rfl) (vp_in_nI (by omega) (by omega)) (x := i) (nI_clamp (by omega)) (b := (Z i) 0) (refA_at (by omega)) ?_
  refine V_get hC dX8_sell_19 inAX6 (mem_fam 4 0 rfl i (by first | assumption | omega) rfl) rfl 2 (by decide) q302 rfl (v := .int ((sz i).2.1)) rfl ?_
  refine V_if_eq hC dX8_sell_22 (tgt := 35) (by decide) (fun h3 => ?_) (fun h3 => ?_)
  · refine V_aload_n hC dX8_sell_35 0 rfl ?_
    refine V_aload_n hC dX8_sell_36 0 rfl ?_
    refine V_get hC dX8_sell_37 inAX8 (mem_at 0 0 rfl rfl) rfl 10 (by decide) q320 rfl (v := .ref (X 19)) rfl ?_
    refine V_iload_n hC dX8_sell_40 1 rfl ?_
    refine V_aald hC dX8_sell_41 6 rfl (mem_at 3 0 rfl rfl) (vp_in_nI (by omega) (by omega)) (x := i) (nI_clamp (by omega)) (b := (Z i) 0) (refA_at (by omega)) ?_
    refine V_sub [4, 0, 1, 2, 3] (by decide) (u := [famW 2 (fun ι => slP G (Z ι) (sz ι)), [(X 0, .inr (9, [.ref (X 1), .int (nI nb), .ref (X 2), .ref (X 6), .ref (X 8), .ref (X 10), .ref (X 14), .ref (X 18), .int (nI nl), .int du, .ref (X 19), .int mo, .ref (X 20), .int cl]))], [(X 18, .inl (G.2.1 5, 12, .inr (.inr (.inr (.inr (refA 12 T))))))], famW 12 (fun ι => ltP G (T ι) (lz ι)), [(X 19, .inl (G.2.1 6, 2, .inr (.inr (.inr (.inr (refA 2 Z))))))]]) rfl ?_
    refine V_open (i := i) (hi) ?_
    refine V_iload_n hC dX8_sell_42 2 rfl ?_
    refine V_calli hC (V_runV hC (rest := []) [.ref ((Z i) 0), .int x] (c_X8_takeSacks l G X nb nl du mo cl T lz (Z i) (sz i) x hnl (hz i hi)) [2, 0, 3, 4] rfl (by decide) q840 q842 q18 q43 q843 ⟨by decide, by decide, rfl⟩ ⟨by decide, by decide⟩ (ci := 9) rfl (mem_at 2 0 rfl rfl) rfl (Nat.le_of_ble_eq_true rfl) ⟨by decide, by decide⟩ dX8_sell_43) (is := [2, 0, 3, 4]) rfl [1, 5] (rs := [famX 2 i (fun ι => slP G (Z ι) (sz ι)), [(X 19, .inl (G.2.1 6, 2, .inr (.inr (.inr (.inr (refA 2 Z))))))]]) rfl (by decide) (by decide) ?_
    rintro _ _ ⟨w4, hw4, rfl, rfl⟩
    refine V_sub [1, 4, 0, 2, 3, 5] (by decide) (u := [slP G (Z i) w4.2.2.1, famX 2 i (fun ι => slP G (Z ι) (sz ι)), [(X 0, .inr (9, [.ref (X 1), .int (nI nb), .ref (X 2), .ref (X 6), .ref (X 8), .ref (X 10), .ref (X 14), .ref (X 18), .int (nI nl), .int du, .ref (X 19), .int mo, .ref (X 20), .int cl]))], [(X 18, .inl (G.2.1 5, 12, .inr (.inr (.inr (.inr (refA 12 T))))))], famW 12 (fun ι => ltP G (T ι) (w4.2.2.2 ι)), [(X 19, .inl (G.2.1 6, 2, .inr (.inr (.inr (.inr (refA 2 Z))))))]]) rfl ?_
    refine V_close (i := i) (g' := fun ι => slP G (Z ι) ((va_up sz i w4.2.2.1) ι)) (hi) (by simp [va_up]) (fun j _ hne => by simp [va_up, hne]) ?_
    refine V_istore_n hC dX8_sell_46 (L' := [(3, .int w4.2.1), (0, .ref (X 0)), (1, .int (nI i)), (2, .int x)]) (by decide) rfl ?_
    refine V_aload_n hC dX8_sell_47 1 rfl ?_
    refine V_dup hC dX8_sell_48 rfl ?_
    refine V_get hC dX8_sell_49 inAX8 (mem_at 1 0 rfl rfl) rfl 11 (by decide) q321 rfl (v := .int mo) rfl ?_
    refine V_iload_n hC dX8_sell_52 0 rfl ?_
    refine V_iadd hC dX8_sell_53 ?_
    refine V_put hC dX8_sell_54 inAX8 tyX8 tyX8_ok nmX8 1 0 rfl rfl rfl 11 (by decide) q321 rfl rfl (rfl) (rfl) (Nat.le_of_ble_eq_true rfl) (ps' := [famW 2 (fun ι => slP G (Z ι) ((va_up sz i w4.2.2.1) ι)), [(X 0, .inr (9, [.ref (X 1), .int (nI nb), .ref (X 2), .ref (X 6), .ref (X 8), .ref (X 10), .ref (X 14), .ref (X 18), .int (nI nl), .int du, .ref (X 19), .int (mo + w4.2.1), .ref (X 20), .int cl]))], [(X 18, .inl (G.2.1 5, 12, .inr (.inr (.inr (.inr (refA 12 T))))))], famW 12 (fun ι => ltP G (T ι) (w4.2.2.2 ι)), [(X 19, .inl (G.2.1 6, 2, .inr (.inr (.inr (.inr (refA 2 Z))))))]]) rfl ?_
    refine V_iload_n hC dX8_sell_57 0 rfl ?_
    exact V_xiret hC hQ hr [1, 2, 3, 4, 0] (u := [[(X 0, .inr (9, [.ref (X 1), .int (nI nb), .ref (X 2), .ref (X 6), .ref (X 8), .ref (X 10), .ref (X 14), .ref (X 18), .int (nI nl), .int du, .ref (X 19), .int (mo + w4.2.1), .ref (X 20), .int cl]))], [(X 18, .inl (G.2.1 5, 12, .inr (.inr (.inr (.inr (refA 12 T))))))], famW 12 (fun ι => ltP G (T ι) (w4.2.2.2 ι)), [(X 19, .inl (G.2.1 6, 2, .inr (.inr (.inr (.inr (refA 2 Z))))))], famW 2 (fun ι => slP G (Z ι) ((va_up sz i w4.2.2.1) ι))]) (by decide) rfl (by decide) (by decide) dX8_sell_58 (⟨i, hi, rfl, hk2, h3, _, hw4, rfl, rfl⟩)
  · exact V_throwS hC hT hl0 hQ (cls := "java/lang/IllegalStateException") (text := "the SILO is SHUT") (by decide +kernel) q576 q62 (by decide +kernel) excW_is (by decide +kernel) dX8_sell_25 dX8_sell_28 dX8_sell_29 dX8_sell_31 dX8_sell_34 (by decide) (Nat.le_of_ble_eq_true rfl) (by decide) (by decide) (by decide) (by decide) [0, 1, 2, 3, 4] (by decide) rfl (Or.inr (Or.inr ⟨rfl, hk1b, hk2, by rw [nI_clamp (by omega)]; exact h3⟩))
