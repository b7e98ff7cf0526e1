/-! ===== the digest ===== -/
def fl1 (f : Nat → Int32) : Nat → Int64 → Int64
  | 0, d => d
  | w + 1, d => fl1 f w d * 31 + (f w).toInt64
def fl2 (f : Nat → Nat → Int32) (M : Nat) : Nat → Int64 → Int64
  | 0, d => d
  | i + 1, d => fl1 (f i) M (fl2 f M i d)
theorem inR_nI {w M : Nat} (h : w ≤ M) (hM : M < 2 ^ 31 := by omega) : inR 0 (nI M) (nI w) := by
  refine ⟨?_, ?_⟩
  · rw [Int32.le_iff_toInt_le, nI_toInt (by omega)]
    have h0 : (0 : Int32).toInt = 0 := rfl
    omega
  · rw [Int32.le_iff_toInt_le, nI_toInt (by omega), nI_toInt (by omega)]
    omega
theorem ixB_no {i n : Nat} (h : i < n) (e : ixB (nI i) (nI n) = 0) (hn : n < 2 ^ 31 := by omega) : False := by
  rw [ixB_in h hn] at e
  exact absurd e (by decide)
theorem V_up {p : Program} {l : Launch} {e : Env} {R : Room} {s : State} {m : MethodId} {args : Array Value} {below : List Frame} {meth : Method} {c : Code} {Q : State → Prop} {G : VG} {A : Nat → Prop} {nL : Nat} {ps : List va_W} {k n k' n' pc : Nat} {L : List (Nat × Value)} {st : List Value} (h : V p l e R s m args below meth c Q G A nL ps k' n' pc L st) (hk : k ≤ k') (hn : n ≤ n') : V p l e R s m args below meth c Q G A nL ps k n pc L st := fun H locs ls hP hD hS hl T hT X =>
  h H locs ls hP hD hS hl T hT { X with same := ⟨X.same.1, X.same.2.1, Nat.le_trans X.same.2.2.1 (by omega), X.same.2.2.2.1, Nat.le_trans X.same.2.2.2.2.1 (by omega), X.same.2.2.2.2.2⟩ }
def flT (lz : Nat → LV) (nl i : Nat) (e : Int64) : Int64 := if ltGr ((lz i).2.1 1) = 0 then e else e * 31 + ((lz i).2.1 1 + ugR lz i nl).toInt64
def flL (lz : Nat → LV) (nl : Nat) : Nat → Int64 → Int64
  | 0, d => d
  | i + 1, d => flT lz nl i (fl1 (qLot (lz i)) 22 (flL lz nl i d))
set_option maxHeartbeats 4000000 in
set_option maxRecDepth 100000 in
/-- ClinkerWorks.digestMany -/
theorem c_X8_digestMany (l : Launch) (hl0 : l.stackTraces = false) (G : VG) (X : Nat → Nat) (nb nl : Nat) (du mo cl : Int32) (n : Nat) (f g h : Nat → Int32) (O : Nat → Nat) (S : KS) (Z : Nat → Nat → Nat) (sz : Nat → SV) (wn : Nat) (ws : Int32) (wf : Nat → Int32) (d : Int64) (hn : n ≤ 8) (hsh : ∀ j, j < 2 → (sz j).2.1 = 0 ∨ (sz j).2.1 = 1) : Ml l G yX8_digestMany cX8_digestMany 6 8 125 18 108 [.ref (X 0), .long d] [[(X 0, .inr (9, [.ref (X 1), .int (nI nb), .ref (X 2), .ref (X 6), .ref (X 8), .ref (X 10), .ref (X 14), .ref (X 18), .int (nI nl), .int du, .ref (X 19), .int mo, .ref (X 20), .int cl]))], [(X 2, .inr (6, [.int (nI n), .ref (X 3), .ref (X 4), .ref (X 5)]))], [(X 3, .inl (G.2.1 0, 8, .inl f))], [(X 4, .inl (G.2.1 0, 8, .inl g))], [(X 5, .inl (G.2.1 0, 8, .inl h))], [(X 10, .inr (3, [.ref (X 11), .ref (X 12), .ref (X 13), .int (nI S.2.1), .ref (O 0), .int (S.1 0), .int (S.1 1), .int (S.1 2), .int (S.1 3), .int (S.1 4), .int (S.1 5), .int (S.1 6)]))], [(X 19, .inl (G.2.1 6, 2, .inr (.inr (.inr (.inr (refA 2 Z))))))], famW 2 (fun ι => slP G (Z ι) (sz ι)), [(X 20, .inr (8, [.ref (X 21), .int (nI wn), .int ws]))], [(X 21, .inl (G.2.1 0, 6, .inl wf))]] (fun r u => r = fl1 (qMany nb n nl g S du mo cl wn sz ws) 18 d ∧ u = [[(X 0, .inr (9, [.ref (X 1), .int (nI nb), .ref (X 2), .ref (X 6), .ref (X 8), .ref (X 10), .ref (X 14), .ref (X 18), .int (nI nl), .int du, .ref (X 19), .int mo, .ref (X 20), .int cl]))], [(X 2, .inr (6, [.int (nI n), .ref (X 3), .ref (X 4), .ref (X 5)]))], [(X 3, .inl (G.2.1 0, 8, .inl f))], [(X 4, .inl (G.2.1 0, 8, .inl g))], [(X 5, .inl (G.2.1 0, 8, .inl h))], [(X 10, .inr (3, [.ref (X 11), .ref (X 12), .ref (X 13), .int (nI S.2.1), .ref (O 0), .int (S.1 0), .int (S.1 1), .int (S.1 2), .int (S.1 3), .int (S.1 4), .int (S.1 5), .int (S.1 6)]))], [(X 19, .inl (G.2.1 6, 2, .inr (.inr (.inr (.inr (refA 2 Z))))))], famW 2 (fun ι => slP G (Z ι) (sz ι)), [(X 20, .inr (8, [.ref (X 21), .int (nI wn), .int ws]))], [(X 21, .inl (G.2.1 0, 6, .inl wf))]]) := by
  refine Ml_of (by decide) (Nat.le_of_ble_eq_true rfl) (fun pP eE sS mM aA bB tT cC AA QQ hC hr hnm hQ => ?_)
  refine V_lload_n hC dX8_digestMany_0 1 rfl ?_
  refine V_lstore_n hC dX8_digestMany_1 (L' := [(3, .long d), (0, .ref (X 0)), (1, .long d)]) (by decide) rfl ?_
  refine V_iconst hC dX8_digestMany_2 (v := 0) (by decide) ?_
  refine V_istore hC dX8_digestMany_3 (L' := [(5, .int 0), (3, .long d), (0, .ref (X 0)), (1, .long d)]) (by decide) rfl ?_
  have loop1 : ∀ (fuel : Nat) (w : Nat) (hw : w ≤ 18) (_ : 18 - w < fuel), V pP l eE { frames := 8, cells := 18, slots := 108, locals := 125 } sS mM aA bB tT cC QQ G AA 6 [[(X 0, .inr (9, [.ref (X 1), .int (nI nb), .ref (X 2), .ref (X 6), .ref (X 8), .ref (X 10), .ref (X 14), .ref (X 18), .int (nI nl), .int du, .ref (X 19), .int mo, .ref (X 20), .int cl]))], [(X 2, .inr (6, [.int (nI n), .ref (X 3), .ref (X 4), .ref (X 5)]))], [(X 3, .inl (G.2.1 0, 8, .inl f))], [(X 4, .inl (G.2.1 0, 8, .inl g))], [(X 5, .inl (G.2.1 0, 8, .inl h))], [(X 10, .inr (3, [.ref (X 11), .ref (X 12), .ref (X 13), .int (nI S.2.1), .ref (O 0), .int (S.1 0), .int (S.1 1), .int (S.1 2), .int (S.1 3), .int (S.1 4), .int (S.1 5), .int (S.1 6)]))], [(X 19, .inl (G.2.1 6, 2, .inr (.inr (.inr (.inr (refA 2 Z))))))], famW 2 (fun ι => slP G (Z ι) (sz ι)), [(X 20, .inr (8, [.ref (X 21), .int (nI wn), .int ws]))], [(X 21, .inl (G.2.1 0, 6, .inl wf))]] w (6 * w) 5 [(0, .ref (X 0)), (1, .long d), (3, .long (fl1 (qMany nb n nl g S du mo cl wn sz ws) w d)), (5, .int (nI w))] [] := by
    intro fuel
    induction fuel with
    | zero => intro w hw hm; exact absurd hm (Nat.not_lt_zero _)
    | succ fuel ih =>
      intro w hw hm
      refine V_iload hC dX8_digestMany_5 3 rfl ?_
      refine V_bipush hC dX8_digestMany_7 (v := 18) (by decide) ?_
      refine V_icmp_ge hC dX8_digestMany_9 (tgt := 30) (by decide) (fun h2 => ?_) (fun h2 => ?_)
      · have he : w = 18 := by have := nle (a := 18) h2; omega
        rw [he]
        refine V_lload_n hC dX8_digestMany_30 2 rfl ?_
        exact V_lret hC hQ hr [0, 1, 2, 3, 4, 5, 6, 7, 8, 9] (u := [[(X 0, .inr (9, [.ref (X 1), .int (nI nb), .ref (X 2), .ref (X 6), .ref (X 8), .ref (X 10), .ref (X 14), .ref (X 18), .int (nI nl), .int du, .ref (X 19), .int mo, .ref (X 20), .int cl]))], [(X 2, .inr (6, [.int (nI n), .ref (X 3), .ref (X 4), .ref (X 5)]))], [(X 3, .inl (G.2.1 0, 8, .inl f))], [(X 4, .inl (G.2.1 0, 8, .inl g))], [(X 5, .inl (G.2.1 0, 8, .inl h))], [(X 10, .inr (3, [.ref (X 11), .ref (X 12), .ref (X 13), .int (nI S.2.1), .ref (O 0), .int (S.1 0), .int (S.1 1), .int (S.1 2), .int (S.1 3), .int (S.1 4), .int (S.1 5), .int (S.1 6)]))], [(X 19, .inl (G.2.1 6, 2, .inr (.inr (.inr (.inr (refA 2 Z))))))], famW 2 (fun ι => slP G (Z ι) (sz ι)), [(X 20, .inr (8, [.ref (X 21), .int (nI wn), .int ws]))], [(X 21, .inl (G.2.1 0, 6, .inl wf))]]) (by decide) rfl (by decide) (by decide) dX8_digestMany_31 (⟨rfl, rfl⟩)
      · have hlt : w < 18 := nnle (a := 18) h2
        refine V_lload_n hC dX8_digestMany_12 2 rfl ?_
        refine V_aload_n hC dX8_digestMany_13 0 rfl ?_
        refine V_iload hC dX8_digestMany_14 3 rfl ?_
        refine V_calli hC (V_runV hC (rest := [.long (fl1 (qMany nb n nl g S du mo cl wn sz ws) w d)]) [.int (nI w)] (Mi_of_Xi (fun E hE => hE.2 (inR_nI (M := 17) (by omega))) (c_X8_many l hl0 G X nb nl du mo cl n f g h O S Z sz wn ws wf (nI w) hn hsh)) [0, 1, 2, 3, 4, 5, 6, 7, 8, 9] rfl (by decide) q631 q588 q589 q20 q590 ⟨by decide, by decide, rfl⟩ ⟨by decide, by decide⟩ (ci := 9) rfl (mem_at 0 0 rfl rfl) rfl (Nat.le_of_ble_eq_true rfl) ⟨(by show w + 1 ≤ 18; omega), (by show 6 * w + 6 ≤ 108; omega)⟩ dX8_digestMany_16) (is := [0, 1, 2, 3, 4, 5, 6, 7, 8, 9]) rfl [] (rs := []) rfl (by decide) (by decide) ?_
        rintro _ _ ⟨w3, hw2, hx2, rfl, rfl⟩
        refine V_eqi (y := qMany nb n nl g S du mo cl wn sz ws w) (by rw [nI_inj hx2]) ?_
        refine V_i2l hC dX8_digestMany_19 ?_
        refine V_calll hC (V_runS hC (rest := []) [.long (fl1 (qMany nb n nl g S du mo cl wn sz ws) w d), .long ((qMany nb n nl g S du mo cl wn sz ws w).toInt64)] (c_X8_fold l G (fl1 (qMany nb n nl g S du mo cl wn sz ws) w d) ((qMany nb n nl g S du mo cl wn sz ws w).toInt64)) [] rfl (by decide) q632 q633 q20 q634 ⟨by decide, by decide, rfl⟩ ⟨by decide, by decide⟩ rfl (Nat.le_of_ble_eq_true rfl) ⟨(by show w + 1 + 0 ≤ 18; omega), (by show 6 * w + 6 + 0 ≤ 108; omega)⟩ dX8_digestMany_20) (is := []) rfl [0, 1, 2, 3, 4, 5, 6, 7, 8, 9] (rs := [[(X 0, .inr (9, [.ref (X 1), .int (nI nb), .ref (X 2), .ref (X 6), .ref (X 8), .ref (X 10), .ref (X 14), .ref (X 18), .int (nI nl), .int du, .ref (X 19), .int mo, .ref (X 20), .int cl]))], [(X 2, .inr (6, [.int (nI n), .ref (X 3), .ref (X 4), .ref (X 5)]))], [(X 3, .inl (G.2.1 0, 8, .inl f))], [(X 4, .inl (G.2.1 0, 8, .inl g))], [(X 5, .inl (G.2.1 0, 8, .inl h))], [(X 10, .inr (3, [.ref (X 11), .ref (X 12), .ref (X 13), .int (nI S.2.1), .ref (O 0), .int (S.1 0), .int (S.1 1), .int (S.1 2), .int (S.1 3), .int (S.1 4), .int (S.1 5), .int (S.1 6)]))], [(X 19, .inl (G.2.1 6, 2, .inr (.inr (.inr (.inr (refA 2 Z))))))], famW 2 (fun ι => slP G (Z ι) (sz ι)), [(X 20, .inr (8, [.ref (X 21), .int (nI wn), .int ws]))], [(X 21, .inl (G.2.1 0, 6, .inl wf))]]) rfl (by decide) (by decide) ?_
        rintro _ _ ⟨rfl, rfl⟩
        refine V_lstore_n hC dX8_digestMany_23 (L' := [(3, .long ((fl1 (qMany nb n nl g S du mo cl wn sz ws) w d) * 31 + ((qMany nb n nl g S du mo cl wn sz ws w).toInt64))), (0, .ref (X 0)), (1, .long d), (5, .int (nI w))]) (by decide) rfl ?_
        refine V_iinc hC dX8_digestMany_24 (v := nI (w + 1)) (L' := [(5, .int (nI (w + 1))), (3, .long ((fl1 (qMany nb n nl g S du mo cl wn sz ws) w d) * 31 + ((qMany nb n nl g S du mo cl wn sz ws w).toInt64))), (0, .ref (X 0)), (1, .long d)]) (j := 3) rfl (nI_1 _) (by decide) rfl ?_
        refine V_goto hC dX8_digestMany_27 (tgt := 5) (by decide) ?_
        refine V_loc (L' := [(0, .ref (X 0)), (1, .long d), (3, .long ((fl1 (qMany nb n nl g S du mo cl wn sz ws) w d) * 31 + ((qMany nb n nl g S du mo cl wn sz ws w).toInt64))), (5, .int (nI (w + 1)))]) [2, 3, 1, 0] rfl ?_
        exact ih (w + 1) (by omega) (by omega)
  refine V_loc (L' := [(0, .ref (X 0)), (1, .long d), (3, .long d), (5, .int 0)]) [2, 3, 1, 0] rfl ?_
  exact loop1 19 0 (by omega) (by omega)
set_option maxHeartbeats 4000000 in
set_option maxRecDepth 100000 in
/-- ClinkerWorks.digestSilos -/
theorem c_X8_digestSilos (l : Launch) (hl0 : l.stackTraces = false) (G : VG) (X : Nat → Nat) (nb nl : Nat) (du mo cl : Int32) (Z : Nat → Nat → Nat) (sz : Nat → SV) (d : Int64) (hs12 : ∀ j, j < 2 → (sz j).1 ≤ 12) : Ml l G yX8_digestSilos cX8_digestSilos 7 8 125 12 72 [.ref (X 0), .long d] [[(X 0, .inr (9, [.ref (X 1), .int (nI nb), .ref (X 2), .ref (X 6), .ref (X 8), .ref (X 10), .ref (X 14), .ref (X 18), .int (nI nl), .int du, .ref (X 19), .int mo, .ref (X 20), .int cl]))], [(X 19, .inl (G.2.1 6, 2, .inr (.inr (.inr (.inr (refA 2 Z))))))], famW 2 (fun ι => slP G (Z ι) (sz ι))] (fun r u => r = fl2 (fun ι κ => siAt (sz ι).2.2 (sz ι).1 (nI κ)) 3 2 d ∧ u = [[(X 0, .inr (9, [.ref (X 1), .int (nI nb), .ref (X 2), .ref (X 6), .ref (X 8), .ref (X 10), .ref (X 14), .ref (X 18), .int (nI nl), .int du, .ref (X 19), .int mo, .ref (X 20), .int cl]))], [(X 19, .inl (G.2.1 6, 2, .inr (.inr (.inr (.inr (refA 2 Z))))))], famW 2 (fun ι => slP G (Z ι) (sz ι))]) := by
  refine Ml_of (by decide) (Nat.le_of_ble_eq_true rfl) (fun pP eE sS mM aA bB tT cC AA QQ hC hr hnm hQ => ?_)
  refine V_lload_n hC dX8_digestSilos_0 1 rfl ?_
  refine V_lstore_n hC dX8_digestSilos_1 (L' := [(3, .long d), (0, .ref (X 0)), (1, .long d)]) (by decide) rfl ?_
  refine V_iconst hC dX8_digestSilos_2 (v := 0) (by decide) ?_
  refine V_istore hC dX8_digestSilos_3 (L' := [(5, .int 0), (3, .long d), (0, .ref (X 0)), (1, .long d)]) (by decide) rfl ?_
  have loop1 : ∀ (fuel : Nat) (i : Nat) (hi : i ≤ 2) (_ : 2 - i < fuel), V pP l eE { frames := 8, cells := 12, slots := 72, locals := 125 } sS mM aA bB tT cC QQ G AA 7 [[(X 0, .inr (9, [.ref (X 1), .int (nI nb), .ref (X 2), .ref (X 6), .ref (X 8), .ref (X 10), .ref (X 14), .ref (X 18), .int (nI nl), .int du, .ref (X 19), .int mo, .ref (X 20), .int cl]))], [(X 19, .inl (G.2.1 6, 2, .inr (.inr (.inr (.inr (refA 2 Z))))))], famW 2 (fun ι => slP G (Z ι) (sz ι))] (6 * i) (36 * i) 5 [(0, .ref (X 0)), (1, .long d), (3, .long (fl2 (fun ι κ => siAt (sz ι).2.2 (sz ι).1 (nI κ)) 3 i (d))), (5, .int (nI i))] [] := by
    intro fuel
    induction fuel with
    | zero => intro i hi hm; exact absurd hm (Nat.not_lt_zero _)
    | succ fuel ih =>
      intro i hi hm
      have ih1 := ih
      refine V_iload hC dX8_digestSilos_5 3 rfl ?_
      refine V_iconst hC dX8_digestSilos_7 (v := 2) (by decide) ?_
      refine V_icmp_ge hC dX8_digestSilos_8 (tgt := 46) (by decide) (fun h2 => ?_) (fun h2 => ?_)
      · have he : i = 2 := by have := nle (a := 2) h2; omega
        rw [he]
        refine V_lload_n hC dX8_digestSilos_46 2 rfl ?_
        exact V_lret hC hQ hr [0, 1, 2] (u := [[(X 0, .inr (9, [.ref (X 1), .int (nI nb), .ref (X 2), .ref (X 6), .ref (X 8), .ref (X 10), .ref (X 14), .ref (X 18), .int (nI nl), .int du, .ref (X 19), .int mo, .ref (X 20), .int cl]))], [(X 19, .inl (G.2.1 6, 2, .inr (.inr (.inr (.inr (refA 2 Z))))))], famW 2 (fun ι => slP G (Z ι) (sz ι))]) (by decide) rfl (by decide) (by decide) dX8_digestSilos_47 (⟨rfl, rfl⟩)
      · have hli : i < 2 := nnle (a := 2) h2
        refine V_iconst hC dX8_digestSilos_11 (v := 0) (by decide) ?_
        refine V_istore hC dX8_digestSilos_12 (L' := [(6, .int 0), (0, .ref (X 0)), (1, .long d), (3, .long (fl2 (fun ι κ => siAt (sz ι).2.2 (sz ι).1 (nI κ)) 3 i (d))), (5, .int (nI i))]) (by decide) rfl ?_
        have loop3 : ∀ (fuel : Nat) (w : Nat) (hw : w ≤ 3) (_ : 3 - w < fuel), V pP l eE { frames := 8, cells := 12, slots := 72, locals := 125 } sS mM aA bB tT cC QQ G AA 7 [[(X 0, .inr (9, [.ref (X 1), .int (nI nb), .ref (X 2), .ref (X 6), .ref (X 8), .ref (X 10), .ref (X 14), .ref (X 18), .int (nI nl), .int du, .ref (X 19), .int mo, .ref (X 20), .int cl]))], [(X 19, .inl (G.2.1 6, 2, .inr (.inr (.inr (.inr (refA 2 Z))))))], famW 2 (fun ι => slP G (Z ι) (sz ι))] (6 * i + 2 * w) (36 * i + 12 * w) 14 [(0, .ref (X 0)), (1, .long d), (3, .long (fl1 ((fun ι κ => siAt (sz ι).2.2 (sz ι).1 (nI κ)) i) w (fl2 (fun ι κ => siAt (sz ι).2.2 (sz ι).1 (nI κ)) 3 i (d)))), (5, .int (nI i)), (6, .int (nI w))] [] := by
          intro fuel
          induction fuel with
          | zero => intro w hw hm; exact absurd hm (Nat.not_lt_zero _)
          | succ fuel ih =>
            intro w hw hm
            refine V_iload hC dX8_digestSilos_14 4 rfl ?_
            refine V_iconst hC dX8_digestSilos_16 (v := 3) (by decide) ?_
            refine V_icmp_ge hC dX8_digestSilos_17 (tgt := 40) (by decide) (fun h4 => ?_) (fun h4 => ?_)
            · have he : w = 3 := by have := nle (a := 3) h4; omega
              rw [he]
              refine V_iinc hC dX8_digestSilos_40 (v := nI (i + 1)) (L' := [(5, .int (nI (i + 1))), (0, .ref (X 0)), (1, .long d), (3, .long (fl1 ((fun ι κ => siAt (sz ι).2.2 (sz ι).1 (nI κ)) i) 3 (fl2 (fun ι κ => siAt (sz ι).2.2 (sz ι).1 (nI κ)) 3 i (d)))), (6, .int (nI 3))]) (j := 3) rfl (nI_1 _) (by decide) rfl ?_
              refine V_goto hC dX8_digestSilos_43 (tgt := 5) (by decide) ?_
              refine V_loc (L' := [(0, .ref (X 0)), (1, .long d), (3, .long (fl1 ((fun ι κ => siAt (sz ι).2.2 (sz ι).1 (nI κ)) i) 3 (fl2 (fun ι κ => siAt (sz ι).2.2 (sz ι).1 (nI κ)) 3 i (d)))), (5, .int (nI (i + 1)))]) [1, 2, 3, 0] rfl ?_
              exact ih1 (i + 1) (by omega) (by omega)
            · have hlt : w < 3 := nnle (a := 3) h4
              refine V_lload_n hC dX8_digestSilos_20 2 rfl ?_
              refine V_aload_n hC dX8_digestSilos_21 0 rfl ?_
              refine V_iload hC dX8_digestSilos_22 3 rfl ?_
              refine V_iload hC dX8_digestSilos_24 4 rfl ?_
              refine V_calli hC (V_runV hC (rest := [.long (fl1 ((fun ι κ => siAt (sz ι).2.2 (sz ι).1 (nI κ)) i) w (fl2 (fun ι κ => siAt (sz ι).2.2 (sz ι).1 (nI κ)) 3 i (d)))]) [.int (nI i), .int (nI w)] (Mi_of_Xi (fun E hE => hE.elim (fun e => ixB_no (n := 2) hli e.2) (fun e => e.2.2 (inR_nI (M := 2147483647) (by omega)))) (c_X8_row l hl0 G X nb nl du mo cl Z sz (nI i) (nI w) hs12)) [0, 1, 2] rfl (by decide) q685 q686 q687 q20 q688 ⟨by decide, by decide, rfl⟩ ⟨by decide, by decide⟩ (ci := 9) rfl (mem_at 0 0 rfl rfl) rfl (Nat.le_of_ble_eq_true rfl) ⟨(by show 6 * i + 2 * w + 2 ≤ 12; omega), (by show 36 * i + 12 * w + 12 ≤ 72; omega)⟩ dX8_digestSilos_26) (is := [0, 1, 2]) rfl [] (rs := []) rfl (by decide) (by decide) ?_
              rintro _ _ ⟨i5, hi2, hb2, hx2, rfl, rfl⟩
              refine V_eqi (y := siAt (sz i).2.2 (sz i).1 (nI w)) (by rw [nI_inj hb2]) ?_
              refine V_i2l hC dX8_digestSilos_29 ?_
              refine V_calll hC (V_runS hC (rest := []) [.long (fl1 ((fun ι κ => siAt (sz ι).2.2 (sz ι).1 (nI κ)) i) w (fl2 (fun ι κ => siAt (sz ι).2.2 (sz ι).1 (nI κ)) 3 i (d))), .long ((siAt (sz i).2.2 (sz i).1 (nI w)).toInt64)] (c_X8_fold l G (fl1 ((fun ι κ => siAt (sz ι).2.2 (sz ι).1 (nI κ)) i) w (fl2 (fun ι κ => siAt (sz ι).2.2 (sz ι).1 (nI κ)) 3 i (d))) ((siAt (sz i).2.2 (sz i).1 (nI w)).toInt64)) [] rfl (by decide) q632 q633 q20 q634 ⟨by decide, by decide, rfl⟩ ⟨by decide, by decide⟩ rfl (Nat.le_of_ble_eq_true rfl) ⟨(by show 6 * i + 2 * w + 2 + 0 ≤ 12; omega), (by show 36 * i + 12 * w + 12 + 0 ≤ 72; omega)⟩ dX8_digestSilos_30) (is := []) rfl [0, 1, 2] (rs := [[(X 0, .inr (9, [.ref (X 1), .int (nI nb), .ref (X 2), .ref (X 6), .ref (X 8), .ref (X 10), .ref (X 14), .ref (X 18), .int (nI nl), .int du, .ref (X 19), .int mo, .ref (X 20), .int cl]))], [(X 19, .inl (G.2.1 6, 2, .inr (.inr (.inr (.inr (refA 2 Z))))))], famW 2 (fun ι => slP G (Z ι) (sz ι))]) rfl (by decide) (by decide) ?_
              rintro _ _ ⟨rfl, rfl⟩
              refine V_lstore_n hC dX8_digestSilos_33 (L' := [(3, .long ((fl1 ((fun ι κ => siAt (sz ι).2.2 (sz ι).1 (nI κ)) i) w (fl2 (fun ι κ => siAt (sz ι).2.2 (sz ι).1 (nI κ)) 3 i (d))) * 31 + ((siAt (sz i).2.2 (sz i).1 (nI w)).toInt64))), (0, .ref (X 0)), (1, .long d), (5, .int (nI i)), (6, .int (nI w))]) (by decide) rfl ?_
              refine V_iinc hC dX8_digestSilos_34 (v := nI (w + 1)) (L' := [(6, .int (nI (w + 1))), (3, .long ((fl1 ((fun ι κ => siAt (sz ι).2.2 (sz ι).1 (nI κ)) i) w (fl2 (fun ι κ => siAt (sz ι).2.2 (sz ι).1 (nI κ)) 3 i (d))) * 31 + ((siAt (sz i).2.2 (sz i).1 (nI w)).toInt64))), (0, .ref (X 0)), (1, .long d), (5, .int (nI i))]) (j := 4) rfl (nI_1 _) (by decide) rfl ?_
              refine V_goto hC dX8_digestSilos_37 (tgt := 14) (by decide) ?_
              refine V_loc (L' := [(0, .ref (X 0)), (1, .long d), (3, .long ((fl1 ((fun ι κ => siAt (sz ι).2.2 (sz ι).1 (nI κ)) i) w (fl2 (fun ι κ => siAt (sz ι).2.2 (sz ι).1 (nI κ)) 3 i (d))) * 31 + ((siAt (sz i).2.2 (sz i).1 (nI w)).toInt64))), (5, .int (nI i)), (6, .int (nI (w + 1)))]) [2, 3, 1, 4, 0] rfl ?_
              exact ih (w + 1) (by omega) (by omega)
        refine V_loc (L' := [(0, .ref (X 0)), (1, .long d), (3, .long (fl2 (fun ι κ => siAt (sz ι).2.2 (sz ι).1 (nI κ)) 3 i (d))), (5, .int (nI i)), (6, .int 0)]) [1, 2, 3, 4, 0] rfl ?_
        exact loop3 (3 + 1) 0 (Nat.zero_le _) (by omega)
  refine V_loc (L' := [(0, .ref (X 0)), (1, .long d), (3, .long d), (5, .int 0)]) [2, 3, 1, 0] rfl ?_
  exact loop1 (2 + 1) 0 (Nat.zero_le _) (by omega)
set_option maxHeartbeats 4000000 in
set_option maxRecDepth 100000 in
/-- ClinkerWorks.digestStone -/
theorem c_X8_digestStone (l : Launch) (hl0 : l.stackTraces = false) (G : VG) (X : Nat → Nat) (nb nl : Nat) (du mo cl : Int32) (B : Nat → Nat → Nat) (bz : Nat → BV) (n : Nat) (f g h : Nat → Int32) (d : Int64) (hnb : nb ≤ 6) (hn : n ≤ 8) (hk01 : ∀ j, j < 6 → (bz j).2.1 = 0 ∨ (bz j).2.1 = 1) : Ml l G yX8_digestStone cX8_digestStone 7 8 126 104 624 [.ref (X 0), .long d] [[(X 0, .inr (9, [.ref (X 1), .int (nI nb), .ref (X 2), .ref (X 6), .ref (X 8), .ref (X 10), .ref (X 14), .ref (X 18), .int (nI nl), .int du, .ref (X 19), .int mo, .ref (X 20), .int cl]))], [(X 1, .inl (G.2.1 3, 6, .inr (.inr (.inr (.inr (refA 6 B))))))], famW 6 (fun ι => bkP G (B ι) (bz ι)), [(X 2, .inr (6, [.int (nI n), .ref (X 3), .ref (X 4), .ref (X 5)]))], [(X 3, .inl (G.2.1 0, 8, .inl f))], [(X 4, .inl (G.2.1 0, 8, .inl g))], [(X 5, .inl (G.2.1 0, 8, .inl h))]] (fun r u => r = fl2 (fun ι κ => if κ = 0 then f ι else g ι) 2 n (fl2 (fun ι κ => qBlock (bz ι) κ) 6 nb d) ∧ u = [[(X 0, .inr (9, [.ref (X 1), .int (nI nb), .ref (X 2), .ref (X 6), .ref (X 8), .ref (X 10), .ref (X 14), .ref (X 18), .int (nI nl), .int du, .ref (X 19), .int mo, .ref (X 20), .int cl]))], [(X 1, .inl (G.2.1 3, 6, .inr (.inr (.inr (.inr (refA 6 B))))))], famW 6 (fun ι => bkP G (B ι) (bz ι)), [(X 2, .inr (6, [.int (nI n), .ref (X 3), .ref (X 4), .ref (X 5)]))], [(X 3, .inl (G.2.1 0, 8, .inl f))], [(X 4, .inl (G.2.1 0, 8, .inl g))], [(X 5, .inl (G.2.1 0, 8, .inl h))]]) := by
  refine Ml_of (by decide) (Nat.le_of_ble_eq_true rfl) (fun pP eE sS mM aA bB tT cC AA QQ hC hr hnm hQ => ?_)
  refine V_lload_n hC dX8_digestStone_0 1 rfl ?_
  refine V_lstore_n hC dX8_digestStone_1 (L' := [(3, .long d), (0, .ref (X 0)), (1, .long d)]) (by decide) rfl ?_
  refine V_iconst hC dX8_digestStone_2 (v := 0) (by decide) ?_
  refine V_istore hC dX8_digestStone_3 (L' := [(5, .int 0), (3, .long d), (0, .ref (X 0)), (1, .long d)]) (by decide) rfl ?_
  have loop1 : ∀ (fuel : Nat) (i : Nat) (hi : i ≤ nb) (_ : nb - i < fuel), V pP l eE { frames := 8, cells := 104, slots := 624, locals := 126 } sS mM aA bB tT cC QQ G AA 7 [[(X 0, .inr (9, [.ref (X 1), .int (nI nb), .ref (X 2), .ref (X 6), .ref (X 8), .ref (X 10), .ref (X 14), .ref (X 18), .int (nI nl), .int du, .ref (X 19), .int mo, .ref (X 20), .int cl]))], [(X 1, .inl (G.2.1 3, 6, .inr (.inr (.inr (.inr (refA 6 B))))))], famW 6 (fun ι => bkP G (B ι) (bz ι)), [(X 2, .inr (6, [.int (nI n), .ref (X 3), .ref (X 4), .ref (X 5)]))], [(X 3, .inl (G.2.1 0, 8, .inl f))], [(X 4, .inl (G.2.1 0, 8, .inl g))], [(X 5, .inl (G.2.1 0, 8, .inl h))]] (12 * i) (72 * i) 5 [(0, .ref (X 0)), (1, .long d), (3, .long (fl2 (fun ι κ => qBlock (bz ι) κ) 6 i (d))), (5, .int (nI i))] [] := by
    intro fuel
    induction fuel with
    | zero => intro i hi hm; exact absurd hm (Nat.not_lt_zero _)
    | succ fuel ih =>
      intro i hi hm
      have ih1 := ih
      refine V_iload hC dX8_digestStone_5 3 rfl ?_
      refine V_aload_n hC dX8_digestStone_7 0 rfl ?_
      refine V_get hC dX8_digestStone_8 inAX8 (mem_at 0 0 rfl rfl) rfl 1 (by decide) q273 rfl (v := .int (nI nb)) rfl ?_
      refine V_icmp_ge hC dX8_digestStone_11 (tgt := 50) (by decide) (fun h2 => ?_) (fun h2 => ?_)
      · have he : i = nb := by have := nle h2; omega
        rw [he]
        refine V_iconst hC dX8_digestStone_50 (v := 0) (by decide) ?_
        refine V_istore hC dX8_digestStone_51 (L' := [(5, .int 0), (0, .ref (X 0)), (1, .long d), (3, .long (fl2 (fun ι κ => qBlock (bz ι) κ) 6 nb (d)))]) (by decide) rfl ?_
        have loop3 : ∀ (fuel : Nat) (i : Nat) (hi : i ≤ n) (_ : n - i < fuel), V pP l eE { frames := 8, cells := 104, slots := 624, locals := 126 } sS mM aA bB tT cC QQ G AA 7 [[(X 0, .inr (9, [.ref (X 1), .int (nI nb), .ref (X 2), .ref (X 6), .ref (X 8), .ref (X 10), .ref (X 14), .ref (X 18), .int (nI nl), .int du, .ref (X 19), .int mo, .ref (X 20), .int cl]))], [(X 1, .inl (G.2.1 3, 6, .inr (.inr (.inr (.inr (refA 6 B))))))], famW 6 (fun ι => bkP G (B ι) (bz ι)), [(X 2, .inr (6, [.int (nI n), .ref (X 3), .ref (X 4), .ref (X 5)]))], [(X 3, .inl (G.2.1 0, 8, .inl f))], [(X 4, .inl (G.2.1 0, 8, .inl g))], [(X 5, .inl (G.2.1 0, 8, .inl h))]] (12 * nb + 4 * i) (72 * nb + 24 * i) 53 [(0, .ref (X 0)), (1, .long d), (3, .long (fl2 (fun ι κ => if κ = 0 then f ι else g ι) 2 i (fl2 (fun ι κ => qBlock (bz ι) κ) 6 nb d))), (5, .int (nI i))] [] := by
          intro fuel
          induction fuel with
          | zero => intro i hi hm; exact absurd hm (Nat.not_lt_zero _)
          | succ fuel ih =>
            intro i hi hm
            have ih1 := ih
            refine V_iload hC dX8_digestStone_53 3 rfl ?_
            refine V_aload_n hC dX8_digestStone_55 0 rfl ?_
            refine V_get hC dX8_digestStone_56 inAX8 (mem_at 0 0 rfl rfl) rfl 2 (by decide) q274 rfl (v := .ref (X 2)) rfl ?_
            refine V_get hC dX8_digestStone_59 inAX5 (mem_at 3 0 rfl rfl) rfl 0 (by decide) q54 rfl (v := .int (nI n)) rfl ?_
            refine V_icmp_ge hC dX8_digestStone_62 (tgt := 100) (by decide) (fun h4 => ?_) (fun h4 => ?_)
            · have he : i = n := by have := nle h4; omega
              rw [he]
              refine V_lload_n hC dX8_digestStone_100 2 rfl ?_
              exact V_lret hC hQ hr [0, 1, 2, 3, 4, 5, 6] (u := [[(X 0, .inr (9, [.ref (X 1), .int (nI nb), .ref (X 2), .ref (X 6), .ref (X 8), .ref (X 10), .ref (X 14), .ref (X 18), .int (nI nl), .int du, .ref (X 19), .int mo, .ref (X 20), .int cl]))], [(X 1, .inl (G.2.1 3, 6, .inr (.inr (.inr (.inr (refA 6 B))))))], famW 6 (fun ι => bkP G (B ι) (bz ι)), [(X 2, .inr (6, [.int (nI n), .ref (X 3), .ref (X 4), .ref (X 5)]))], [(X 3, .inl (G.2.1 0, 8, .inl f))], [(X 4, .inl (G.2.1 0, 8, .inl g))], [(X 5, .inl (G.2.1 0, 8, .inl h))]]) (by decide) rfl (by show 12 * nb + 4 * n ≤ 104; omega) (by show 72 * nb + 24 * n ≤ 624; omega) dX8_digestStone_101 (⟨rfl, rfl⟩)
            · have hli : i < n := nnle h4
              refine V_iconst hC dX8_digestStone_65 (v := 0) (by decide) ?_
              refine V_istore hC dX8_digestStone_66 (L' := [(6, .int 0), (0, .ref (X 0)), (1, .long d), (3, .long (fl2 (fun ι κ => if κ = 0 then f ι else g ι) 2 i (fl2 (fun ι κ => qBlock (bz ι) κ) 6 nb d))), (5, .int (nI i))]) (by decide) rfl ?_
              have loop5 : ∀ (fuel : Nat) (w : Nat) (hw : w ≤ 2) (_ : 2 - w < fuel), V pP l eE { frames := 8, cells := 104, slots := 624, locals := 126 } sS mM aA bB tT cC QQ G AA 7 [[(X 0, .inr (9, [.ref (X 1), .int (nI nb), .ref (X 2), .ref (X 6), .ref (X 8), .ref (X 10), .ref (X 14), .ref (X 18), .int (nI nl), .int du, .ref (X 19), .int mo, .ref (X 20), .int cl]))], [(X 1, .inl (G.2.1 3, 6, .inr (.inr (.inr (.inr (refA 6 B))))))], famW 6 (fun ι => bkP G (B ι) (bz ι)), [(X 2, .inr (6, [.int (nI n), .ref (X 3), .ref (X 4), .ref (X 5)]))], [(X 3, .inl (G.2.1 0, 8, .inl f))], [(X 4, .inl (G.2.1 0, 8, .inl g))], [(X 5, .inl (G.2.1 0, 8, .inl h))]] (12 * nb + 4 * i + 2 * w) (72 * nb + 24 * i + 12 * w) 68 [(0, .ref (X 0)), (1, .long d), (3, .long (fl1 ((fun ι κ => if κ = 0 then f ι else g ι) i) w (fl2 (fun ι κ => if κ = 0 then f ι else g ι) 2 i (fl2 (fun ι κ => qBlock (bz ι) κ) 6 nb d)))), (5, .int (nI i)), (6, .int (nI w))] [] := by
                intro fuel
                induction fuel with
                | zero => intro w hw hm; exact absurd hm (Nat.not_lt_zero _)
                | succ fuel ih =>
                  intro w hw hm
                  refine V_iload hC dX8_digestStone_68 4 rfl ?_
                  refine V_iconst hC dX8_digestStone_70 (v := 2) (by decide) ?_
                  refine V_icmp_ge hC dX8_digestStone_71 (tgt := 94) (by decide) (fun h6 => ?_) (fun h6 => ?_)
                  · have he : w = 2 := by have := nle (a := 2) h6; omega
                    rw [he]
                    refine V_iinc hC dX8_digestStone_94 (v := nI (i + 1)) (L' := [(5, .int (nI (i + 1))), (0, .ref (X 0)), (1, .long d), (3, .long (fl1 ((fun ι κ => if κ = 0 then f ι else g ι) i) 2 (fl2 (fun ι κ => if κ = 0 then f ι else g ι) 2 i (fl2 (fun ι κ => qBlock (bz ι) κ) 6 nb d)))), (6, .int (nI 2))]) (j := 3) rfl (nI_1 _) (by decide) rfl ?_
                    refine V_goto hC dX8_digestStone_97 (tgt := 53) (by decide) ?_
                    refine V_loc (L' := [(0, .ref (X 0)), (1, .long d), (3, .long (fl1 ((fun ι κ => if κ = 0 then f ι else g ι) i) 2 (fl2 (fun ι κ => if κ = 0 then f ι else g ι) 2 i (fl2 (fun ι κ => qBlock (bz ι) κ) 6 nb d)))), (5, .int (nI (i + 1)))]) [1, 2, 3, 0] rfl ?_
                    exact ih1 (i + 1) (by omega) (by omega)
                  · have hlt : w < 2 := nnle (a := 2) h6
                    refine V_lload_n hC dX8_digestStone_74 2 rfl ?_
                    refine V_aload_n hC dX8_digestStone_75 0 rfl ?_
                    refine V_iload hC dX8_digestStone_76 3 rfl ?_
                    refine V_iload hC dX8_digestStone_78 4 rfl ?_
                    refine V_calli hC (V_runV hC (rest := [.long (fl1 ((fun ι κ => if κ = 0 then f ι else g ι) i) w (fl2 (fun ι κ => if κ = 0 then f ι else g ι) 2 i (fl2 (fun ι κ => qBlock (bz ι) κ) 6 nb d)))]) [.int (nI i), .int (nI w)] (Mi_of_Xi (fun E hE => hE.elim (fun e => ixB_no hli e.2) (fun e => e.2.2 (inR_nI (M := 1) (by omega)))) (c_X8_ofLayer l hl0 G X nb nl du mo cl n f g h (nI i) (nI w) hn)) [0, 3, 4, 5, 6] rfl (by decide) q645 q646 q647 q20 q648 ⟨by decide, by decide, rfl⟩ ⟨by decide, by decide⟩ (ci := 9) rfl (mem_at 0 0 rfl rfl) rfl (Nat.le_of_ble_eq_true rfl) ⟨(by show 12 * nb + 4 * i + 2 * w + 2 ≤ 104; omega), (by show 72 * nb + 24 * i + 12 * w + 12 ≤ 624; omega)⟩ dX8_digestStone_80) (is := [0, 3, 4, 5, 6]) rfl [1, 2] (rs := [[(X 1, .inl (G.2.1 3, 6, .inr (.inr (.inr (.inr (refA 6 B))))))], famW 6 (fun ι => bkP G (B ι) (bz ι))]) rfl (by decide) (by decide) ?_
                    rintro _ _ ⟨i7, w7, hi2, hb2, hw2, hx2, rfl, rfl⟩
                    refine V_eqi (y := if w = 0 then f i else g i) (by rw [nI_inj hb2, nI_inj hx2]) ?_
                    refine V_i2l hC dX8_digestStone_83 ?_
                    refine V_calll hC (V_runS hC (rest := []) [.long (fl1 ((fun ι κ => if κ = 0 then f ι else g ι) i) w (fl2 (fun ι κ => if κ = 0 then f ι else g ι) 2 i (fl2 (fun ι κ => qBlock (bz ι) κ) 6 nb d))), .long ((if w = 0 then f i else g i).toInt64)] (c_X8_fold l G (fl1 ((fun ι κ => if κ = 0 then f ι else g ι) i) w (fl2 (fun ι κ => if κ = 0 then f ι else g ι) 2 i (fl2 (fun ι κ => qBlock (bz ι) κ) 6 nb d))) ((if w = 0 then f i else g i).toInt64)) [] rfl (by decide) q632 q633 q20 q634 ⟨by decide, by decide, rfl⟩ ⟨by decide, by decide⟩ rfl (Nat.le_of_ble_eq_true rfl) ⟨(by show 12 * nb + 4 * i + 2 * w + 2 + 0 ≤ 104; omega), (by show 72 * nb + 24 * i + 12 * w + 12 + 0 ≤ 624; omega)⟩ dX8_digestStone_84) (is := []) rfl [0, 1, 2, 3, 4, 5, 6] (rs := [[(X 0, .inr (9, [.ref (X 1), .int (nI nb), .ref (X 2), .ref (X 6), .ref (X 8), .ref (X 10), .ref (X 14), .ref (X 18), .int (nI nl), .int du, .ref (X 19), .int mo, .ref (X 20), .int cl]))], [(X 2, .inr (6, [.int (nI n), .ref (X 3), .ref (X 4), .ref (X 5)]))], [(X 3, .inl (G.2.1 0, 8, .inl f))], [(X 4, .inl (G.2.1 0, 8, .inl g))], [(X 5, .inl (G.2.1 0, 8, .inl h))], [(X 1, .inl (G.2.1 3, 6, .inr (.inr (.inr (.inr (refA 6 B))))))], famW 6 (fun ι => bkP G (B ι) (bz ι))]) rfl (by decide) (by decide) ?_
                    rintro _ _ ⟨rfl, rfl⟩
                    refine V_lstore_n hC dX8_digestStone_87 (L' := [(3, .long ((fl1 ((fun ι κ => if κ = 0 then f ι else g ι) i) w (fl2 (fun ι κ => if κ = 0 then f ι else g ι) 2 i (fl2 (fun ι κ => qBlock (bz ι) κ) 6 nb d))) * 31 + ((if w = 0 then f i else g i).toInt64))), (0, .ref (X 0)), (1, .long d), (5, .int (nI i)), (6, .int (nI w))]) (by decide) rfl ?_
                    refine V_iinc hC dX8_digestStone_88 (v := nI (w + 1)) (L' := [(6, .int (nI (w + 1))), (3, .long ((fl1 ((fun ι κ => if κ = 0 then f ι else g ι) i) w (fl2 (fun ι κ => if κ = 0 then f ι else g ι) 2 i (fl2 (fun ι κ => qBlock (bz ι) κ) 6 nb d))) * 31 + ((if w = 0 then f i else g i).toInt64))), (0, .ref (X 0)), (1, .long d), (5, .int (nI i))]) (j := 4) rfl (nI_1 _) (by decide) rfl ?_
                    refine V_goto hC dX8_digestStone_91 (tgt := 68) (by decide) ?_
                    refine V_loc (L' := [(0, .ref (X 0)), (1, .long d), (3, .long ((fl1 ((fun ι κ => if κ = 0 then f ι else g ι) i) w (fl2 (fun ι κ => if κ = 0 then f ι else g ι) 2 i (fl2 (fun ι κ => qBlock (bz ι) κ) 6 nb d))) * 31 + ((if w = 0 then f i else g i).toInt64))), (5, .int (nI i)), (6, .int (nI (w + 1)))]) [2, 3, 1, 4, 0] rfl ?_
                    refine V_sub [0, 5, 6, 1, 2, 3, 4] (by decide) (u := [[(X 0, .inr (9, [.ref (X 1), .int (nI nb), .ref (X 2), .ref (X 6), .ref (X 8), .ref (X 10), .ref (X 14), .ref (X 18), .int (nI nl), .int du, .ref (X 19), .int mo, .ref (X 20), .int cl]))], [(X 1, .inl (G.2.1 3, 6, .inr (.inr (.inr (.inr (refA 6 B))))))], famW 6 (fun ι => bkP G (B ι) (bz ι)), [(X 2, .inr (6, [.int (nI n), .ref (X 3), .ref (X 4), .ref (X 5)]))], [(X 3, .inl (G.2.1 0, 8, .inl f))], [(X 4, .inl (G.2.1 0, 8, .inl g))], [(X 5, .inl (G.2.1 0, 8, .inl h))]]) rfl ?_
                    exact ih (w + 1) (by omega) (by omega)
              refine V_loc (L' := [(0, .ref (X 0)), (1, .long d), (3, .long (fl2 (fun ι κ => if κ = 0 then f ι else g ι) 2 i (fl2 (fun ι κ => qBlock (bz ι) κ) 6 nb d))), (5, .int (nI i)), (6, .int 0)]) [1, 2, 3, 4, 0] rfl ?_
              exact loop5 (2 + 1) 0 (Nat.zero_le _) (by omega)
        refine V_loc (L' := [(0, .ref (X 0)), (1, .long d), (3, .long (fl2 (fun ι κ => qBlock (bz ι) κ) 6 nb (d))), (5, .int 0)]) [1, 2, 3, 0] rfl ?_
        exact loop3 (n + 1) 0 (Nat.zero_le _) (by omega)
      · have hli : i < nb := nnle h2
        refine V_iconst hC dX8_digestStone_14 (v := 0) (by decide) ?_
        refine V_istore hC dX8_digestStone_15 (L' := [(6, .int 0), (0, .ref (X 0)), (1, .long d), (3, .long (fl2 (fun ι κ => qBlock (bz ι) κ) 6 i (d))), (5, .int (nI i))]) (by decide) rfl ?_
        have loop8 : ∀ (fuel : Nat) (w : Nat) (hw : w ≤ 6) (_ : 6 - w < fuel), V pP l eE { frames := 8, cells := 104, slots := 624, locals := 126 } sS mM aA bB tT cC QQ G AA 7 [[(X 0, .inr (9, [.ref (X 1), .int (nI nb), .ref (X 2), .ref (X 6), .ref (X 8), .ref (X 10), .ref (X 14), .ref (X 18), .int (nI nl), .int du, .ref (X 19), .int mo, .ref (X 20), .int cl]))], [(X 1, .inl (G.2.1 3, 6, .inr (.inr (.inr (.inr (refA 6 B))))))], famW 6 (fun ι => bkP G (B ι) (bz ι)), [(X 2, .inr (6, [.int (nI n), .ref (X 3), .ref (X 4), .ref (X 5)]))], [(X 3, .inl (G.2.1 0, 8, .inl f))], [(X 4, .inl (G.2.1 0, 8, .inl g))], [(X 5, .inl (G.2.1 0, 8, .inl h))]] (12 * i + 2 * w) (72 * i + 12 * w) 17 [(0, .ref (X 0)), (1, .long d), (3, .long (fl1 ((fun ι κ => qBlock (bz ι) κ) i) w (fl2 (fun ι κ => qBlock (bz ι) κ) 6 i (d)))), (5, .int (nI i)), (6, .int (nI w))] [] := by
          intro fuel
          induction fuel with
          | zero => intro w hw hm; exact absurd hm (Nat.not_lt_zero _)
          | succ fuel ih =>
            intro w hw hm
            refine V_iload hC dX8_digestStone_17 4 rfl ?_
            refine V_bipush hC dX8_digestStone_19 (v := 6) (by decide) ?_
            refine V_icmp_ge hC dX8_digestStone_21 (tgt := 44) (by decide) (fun h9 => ?_) (fun h9 => ?_)
            · have he : w = 6 := by have := nle (a := 6) h9; omega
              rw [he]
              refine V_iinc hC dX8_digestStone_44 (v := nI (i + 1)) (L' := [(5, .int (nI (i + 1))), (0, .ref (X 0)), (1, .long d), (3, .long (fl1 ((fun ι κ => qBlock (bz ι) κ) i) 6 (fl2 (fun ι κ => qBlock (bz ι) κ) 6 i (d)))), (6, .int (nI 6))]) (j := 3) rfl (nI_1 _) (by decide) rfl ?_
              refine V_goto hC dX8_digestStone_47 (tgt := 5) (by decide) ?_
              refine V_loc (L' := [(0, .ref (X 0)), (1, .long d), (3, .long (fl1 ((fun ι κ => qBlock (bz ι) κ) i) 6 (fl2 (fun ι κ => qBlock (bz ι) κ) 6 i (d)))), (5, .int (nI (i + 1)))]) [1, 2, 3, 0] rfl ?_
              exact ih1 (i + 1) (by omega) (by omega)
            · have hlt : w < 6 := nnle (a := 6) h9
              refine V_lload_n hC dX8_digestStone_24 2 rfl ?_
              refine V_aload_n hC dX8_digestStone_25 0 rfl ?_
              refine V_iload hC dX8_digestStone_26 3 rfl ?_
              refine V_iload hC dX8_digestStone_28 4 rfl ?_
              refine V_calli hC (V_runV hC (rest := [.long (fl1 ((fun ι κ => qBlock (bz ι) κ) i) w (fl2 (fun ι κ => qBlock (bz ι) κ) 6 i (d)))]) [.int (nI i), .int (nI w)] (Mi_of_Xi (fun E hE => hE.elim (fun e => ixB_no hli e.2) (fun e => e.2.2 (inR_nI (M := 5) (by omega)))) (c_X8_ofBlock l hl0 G X nb nl du mo cl B bz (nI i) (nI w) hnb hk01)) [0, 1, 2] rfl (by decide) q640 q641 q642 q20 q643 ⟨by decide, by decide, rfl⟩ ⟨by decide, by decide⟩ (ci := 9) rfl (mem_at 0 0 rfl rfl) rfl (Nat.le_of_ble_eq_true rfl) ⟨(by show 12 * i + 2 * w + 2 ≤ 104; omega), (by show 72 * i + 12 * w + 12 ≤ 624; omega)⟩ dX8_digestStone_30) (is := [0, 1, 2]) rfl [3, 4, 5, 6] (rs := [[(X 2, .inr (6, [.int (nI n), .ref (X 3), .ref (X 4), .ref (X 5)]))], [(X 3, .inl (G.2.1 0, 8, .inl f))], [(X 4, .inl (G.2.1 0, 8, .inl g))], [(X 5, .inl (G.2.1 0, 8, .inl h))]]) rfl (by decide) (by decide) ?_
              rintro _ _ ⟨i10, w10, hi2, hb2, hw2, hx2, rfl, rfl⟩
              refine V_eqi (y := qBlock (bz i) w) (by rw [nI_inj hb2, nI_inj hx2]) ?_
              refine V_i2l hC dX8_digestStone_33 ?_
              refine V_calll hC (V_runS hC (rest := []) [.long (fl1 ((fun ι κ => qBlock (bz ι) κ) i) w (fl2 (fun ι κ => qBlock (bz ι) κ) 6 i (d))), .long ((qBlock (bz i) w).toInt64)] (c_X8_fold l G (fl1 ((fun ι κ => qBlock (bz ι) κ) i) w (fl2 (fun ι κ => qBlock (bz ι) κ) 6 i (d))) ((qBlock (bz i) w).toInt64)) [] rfl (by decide) q632 q633 q20 q634 ⟨by decide, by decide, rfl⟩ ⟨by decide, by decide⟩ rfl (Nat.le_of_ble_eq_true rfl) ⟨(by show 12 * i + 2 * w + 2 + 0 ≤ 104; omega), (by show 72 * i + 12 * w + 12 + 0 ≤ 624; omega)⟩ dX8_digestStone_34) (is := []) rfl [0, 1, 2, 3, 4, 5, 6] (rs := [[(X 0, .inr (9, [.ref (X 1), .int (nI nb), .ref (X 2), .ref (X 6), .ref (X 8), .ref (X 10), .ref (X 14), .ref (X 18), .int (nI nl), .int du, .ref (X 19), .int mo, .ref (X 20), .int cl]))], [(X 1, .inl (G.2.1 3, 6, .inr (.inr (.inr (.inr (refA 6 B))))))], famW 6 (fun ι => bkP G (B ι) (bz ι)), [(X 2, .inr (6, [.int (nI n), .ref (X 3), .ref (X 4), .ref (X 5)]))], [(X 3, .inl (G.2.1 0, 8, .inl f))], [(X 4, .inl (G.2.1 0, 8, .inl g))], [(X 5, .inl (G.2.1 0, 8, .inl h))]]) rfl (by decide) (by decide) ?_
              rintro _ _ ⟨rfl, rfl⟩
              refine V_lstore_n hC dX8_digestStone_37 (L' := [(3, .long ((fl1 ((fun ι κ => qBlock (bz ι) κ) i) w (fl2 (fun ι κ => qBlock (bz ι) κ) 6 i (d))) * 31 + ((qBlock (bz i) w).toInt64))), (0, .ref (X 0)), (1, .long d), (5, .int (nI i)), (6, .int (nI w))]) (by decide) rfl ?_
              refine V_iinc hC dX8_digestStone_38 (v := nI (w + 1)) (L' := [(6, .int (nI (w + 1))), (3, .long ((fl1 ((fun ι κ => qBlock (bz ι) κ) i) w (fl2 (fun ι κ => qBlock (bz ι) κ) 6 i (d))) * 31 + ((qBlock (bz i) w).toInt64))), (0, .ref (X 0)), (1, .long d), (5, .int (nI i))]) (j := 4) rfl (nI_1 _) (by decide) rfl ?_
              refine V_goto hC dX8_digestStone_41 (tgt := 17) (by decide) ?_
              refine V_loc (L' := [(0, .ref (X 0)), (1, .long d), (3, .long ((fl1 ((fun ι κ => qBlock (bz ι) κ) i) w (fl2 (fun ι κ => qBlock (bz ι) κ) 6 i (d))) * 31 + ((qBlock (bz i) w).toInt64))), (5, .int (nI i)), (6, .int (nI (w + 1)))]) [2, 3, 1, 4, 0] rfl ?_
              exact ih (w + 1) (by omega) (by omega)
        refine V_loc (L' := [(0, .ref (X 0)), (1, .long d), (3, .long (fl2 (fun ι κ => qBlock (bz ι) κ) 6 i (d))), (5, .int (nI i)), (6, .int 0)]) [1, 2, 3, 4, 0] rfl ?_
        exact loop8 (6 + 1) 0 (Nat.zero_le _) (by omega)
  refine V_loc (L' := [(0, .ref (X 0)), (1, .long d), (3, .long d), (5, .int 0)]) [2, 3, 1, 0] rfl ?_
  exact loop1 (nb + 1) 0 (Nat.zero_le _) (by omega)
set_option maxHeartbeats 4000000 in
set_option maxRecDepth 100000 in
/-- ClinkerWorks.digestKiln -/
theorem c_X8_digestKiln (l : Launch) (hl0 : l.stackTraces = false) (G : VG) (X : Nat → Nat) (nb nl : Nat) (du mo cl : Int32) (C W : Nat → Nat → Nat) (O : Nat → Nat) (S : KS) (d : Int64) (hq3 : S.2.1 ≤ 3) : Ml l G yX8_digestKiln cX8_digestKiln 7 8 127 104 624 [.ref (X 0), .long d] [[(X 0, .inr (9, [.ref (X 1), .int (nI nb), .ref (X 2), .ref (X 6), .ref (X 8), .ref (X 10), .ref (X 14), .ref (X 18), .int (nI nl), .int du, .ref (X 19), .int mo, .ref (X 20), .int cl]))], [(X 10, .inr (3, [.ref (X 11), .ref (X 12), .ref (X 13), .int (nI S.2.1), .ref (O 0), .int (S.1 0), .int (S.1 1), .int (S.1 2), .int (S.1 3), .int (S.1 4), .int (S.1 5), .int (S.1 6)]))], [(X 11, .inl (G.2.1 4, 5, .inr (.inr (.inr (.inr (refA 5 C))))))], [(X 12, .inl (G.2.1 0, 5, .inl S.2.2.2.2.2))], famW 5 (fun ι => chP G (C ι) (S.2.2.1 ι)), [(X 13, .inl (G.2.1 4, 3, .inr (.inr (.inr (.inr (refA 3 W))))))], famW 3 (fun ι => chP G (W ι) (S.2.2.2.1 ι))] (fun r u => r = fl2 (fun ι κ => qMod (S.2.2.2.1 ι).2.1 κ) 4 S.2.1 (fl2 (fun ι κ => qCell (S.2.2.1 ι) (S.2.2.2.2.2 ι) κ) 8 5 d) ∧ u = [[(X 0, .inr (9, [.ref (X 1), .int (nI nb), .ref (X 2), .ref (X 6), .ref (X 8), .ref (X 10), .ref (X 14), .ref (X 18), .int (nI nl), .int du, .ref (X 19), .int mo, .ref (X 20), .int cl]))], [(X 10, .inr (3, [.ref (X 11), .ref (X 12), .ref (X 13), .int (nI S.2.1), .ref (O 0), .int (S.1 0), .int (S.1 1), .int (S.1 2), .int (S.1 3), .int (S.1 4), .int (S.1 5), .int (S.1 6)]))], [(X 11, .inl (G.2.1 4, 5, .inr (.inr (.inr (.inr (refA 5 C))))))], [(X 12, .inl (G.2.1 0, 5, .inl S.2.2.2.2.2))], famW 5 (fun ι => chP G (C ι) (S.2.2.1 ι)), [(X 13, .inl (G.2.1 4, 3, .inr (.inr (.inr (.inr (refA 3 W))))))], famW 3 (fun ι => chP G (W ι) (S.2.2.2.1 ι))]) := by
  refine Ml_of (by decide) (Nat.le_of_ble_eq_true rfl) (fun pP eE sS mM aA bB tT cC AA QQ hC hr hnm hQ => ?_)
  refine V_lload_n hC dX8_digestKiln_0 1 rfl ?_
  refine V_lstore_n hC dX8_digestKiln_1 (L' := [(3, .long d), (0, .ref (X 0)), (1, .long d)]) (by decide) rfl ?_
  refine V_iconst hC dX8_digestKiln_2 (v := 0) (by decide) ?_
  refine V_istore hC dX8_digestKiln_3 (L' := [(5, .int 0), (3, .long d), (0, .ref (X 0)), (1, .long d)]) (by decide) rfl ?_
  have loop1 : ∀ (fuel : Nat) (i : Nat) (hi : i ≤ 5) (_ : 5 - i < fuel), V pP l eE { frames := 8, cells := 104, slots := 624, locals := 127 } sS mM aA bB tT cC QQ G AA 7 [[(X 0, .inr (9, [.ref (X 1), .int (nI nb), .ref (X 2), .ref (X 6), .ref (X 8), .ref (X 10), .ref (X 14), .ref (X 18), .int (nI nl), .int du, .ref (X 19), .int mo, .ref (X 20), .int cl]))], [(X 10, .inr (3, [.ref (X 11), .ref (X 12), .ref (X 13), .int (nI S.2.1), .ref (O 0), .int (S.1 0), .int (S.1 1), .int (S.1 2), .int (S.1 3), .int (S.1 4), .int (S.1 5), .int (S.1 6)]))], [(X 11, .inl (G.2.1 4, 5, .inr (.inr (.inr (.inr (refA 5 C))))))], [(X 12, .inl (G.2.1 0, 5, .inl S.2.2.2.2.2))], famW 5 (fun ι => chP G (C ι) (S.2.2.1 ι)), [(X 13, .inl (G.2.1 4, 3, .inr (.inr (.inr (.inr (refA 3 W))))))], famW 3 (fun ι => chP G (W ι) (S.2.2.2.1 ι))] (16 * i) (96 * i) 5 [(0, .ref (X 0)), (1, .long d), (3, .long (fl2 (fun ι κ => qCell (S.2.2.1 ι) (S.2.2.2.2.2 ι) κ) 8 i (d))), (5, .int (nI i))] [] := by
    intro fuel
    induction fuel with
    | zero => intro i hi hm; exact absurd hm (Nat.not_lt_zero _)
    | succ fuel ih =>
      intro i hi hm
      have ih1 := ih
      refine V_iload hC dX8_digestKiln_5 3 rfl ?_
      refine V_iconst hC dX8_digestKiln_7 (v := 5) (by decide) ?_
      refine V_icmp_ge hC dX8_digestKiln_8 (tgt := 47) (by decide) (fun h2 => ?_) (fun h2 => ?_)
      · have he : i = 5 := by have := nle (a := 5) h2; omega
        rw [he]
        refine V_iconst hC dX8_digestKiln_47 (v := 0) (by decide) ?_
        refine V_istore hC dX8_digestKiln_48 (L' := [(5, .int 0), (0, .ref (X 0)), (1, .long d), (3, .long (fl2 (fun ι κ => qCell (S.2.2.1 ι) (S.2.2.2.2.2 ι) κ) 8 5 (d)))]) (by decide) rfl ?_
        have loop3 : ∀ (fuel : Nat) (i : Nat) (hi : i ≤ S.2.1) (_ : S.2.1 - i < fuel), V pP l eE { frames := 8, cells := 104, slots := 624, locals := 127 } sS mM aA bB tT cC QQ G AA 7 [[(X 0, .inr (9, [.ref (X 1), .int (nI nb), .ref (X 2), .ref (X 6), .ref (X 8), .ref (X 10), .ref (X 14), .ref (X 18), .int (nI nl), .int du, .ref (X 19), .int mo, .ref (X 20), .int cl]))], [(X 10, .inr (3, [.ref (X 11), .ref (X 12), .ref (X 13), .int (nI S.2.1), .ref (O 0), .int (S.1 0), .int (S.1 1), .int (S.1 2), .int (S.1 3), .int (S.1 4), .int (S.1 5), .int (S.1 6)]))], [(X 11, .inl (G.2.1 4, 5, .inr (.inr (.inr (.inr (refA 5 C))))))], [(X 12, .inl (G.2.1 0, 5, .inl S.2.2.2.2.2))], famW 5 (fun ι => chP G (C ι) (S.2.2.1 ι)), [(X 13, .inl (G.2.1 4, 3, .inr (.inr (.inr (.inr (refA 3 W))))))], famW 3 (fun ι => chP G (W ι) (S.2.2.2.1 ι))] (16 * 5 + 8 * i) (96 * 5 + 48 * i) 50 [(0, .ref (X 0)), (1, .long d), (3, .long (fl2 (fun ι κ => qMod (S.2.2.2.1 ι).2.1 κ) 4 i (fl2 (fun ι κ => qCell (S.2.2.1 ι) (S.2.2.2.2.2 ι) κ) 8 5 d))), (5, .int (nI i))] [] := by
          intro fuel
          induction fuel with
          | zero => intro i hi hm; exact absurd hm (Nat.not_lt_zero _)
          | succ fuel ih =>
            intro i hi hm
            have ih1 := ih
            refine V_iload hC dX8_digestKiln_50 3 rfl ?_
            refine V_aload_n hC dX8_digestKiln_52 0 rfl ?_
            refine V_get hC dX8_digestKiln_53 inAX8 (mem_at 0 0 rfl rfl) rfl 5 (by decide) q277 rfl (v := .ref (X 10)) rfl ?_
            refine V_get hC dX8_digestKiln_56 inAX2 (mem_at 1 0 rfl rfl) rfl 3 (by decide) q140 rfl (v := .int (nI S.2.1)) rfl ?_
            refine V_icmp_ge hC dX8_digestKiln_59 (tgt := 97) (by decide) (fun h4 => ?_) (fun h4 => ?_)
            · have he : i = S.2.1 := by have := nle h4; omega
              rw [he]
              refine V_lload_n hC dX8_digestKiln_97 2 rfl ?_
              exact V_lret hC hQ hr [0, 1, 2, 3, 4, 5, 6] (u := [[(X 0, .inr (9, [.ref (X 1), .int (nI nb), .ref (X 2), .ref (X 6), .ref (X 8), .ref (X 10), .ref (X 14), .ref (X 18), .int (nI nl), .int du, .ref (X 19), .int mo, .ref (X 20), .int cl]))], [(X 10, .inr (3, [.ref (X 11), .ref (X 12), .ref (X 13), .int (nI S.2.1), .ref (O 0), .int (S.1 0), .int (S.1 1), .int (S.1 2), .int (S.1 3), .int (S.1 4), .int (S.1 5), .int (S.1 6)]))], [(X 11, .inl (G.2.1 4, 5, .inr (.inr (.inr (.inr (refA 5 C))))))], [(X 12, .inl (G.2.1 0, 5, .inl S.2.2.2.2.2))], famW 5 (fun ι => chP G (C ι) (S.2.2.1 ι)), [(X 13, .inl (G.2.1 4, 3, .inr (.inr (.inr (.inr (refA 3 W))))))], famW 3 (fun ι => chP G (W ι) (S.2.2.2.1 ι))]) (by decide) rfl (by show 16 * 5 + 8 * S.2.1 ≤ 104; omega) (by show 96 * 5 + 48 * S.2.1 ≤ 624; omega) dX8_digestKiln_98 (⟨rfl, rfl⟩)
            · have hli : i < S.2.1 := nnle h4
              refine V_iconst hC dX8_digestKiln_62 (v := 0) (by decide) ?_
              refine V_istore hC dX8_digestKiln_63 (L' := [(6, .int 0), (0, .ref (X 0)), (1, .long d), (3, .long (fl2 (fun ι κ => qMod (S.2.2.2.1 ι).2.1 κ) 4 i (fl2 (fun ι κ => qCell (S.2.2.1 ι) (S.2.2.2.2.2 ι) κ) 8 5 d))), (5, .int (nI i))]) (by decide) rfl ?_
              have loop5 : ∀ (fuel : Nat) (w : Nat) (hw : w ≤ 4) (_ : 4 - w < fuel), V pP l eE { frames := 8, cells := 104, slots := 624, locals := 127 } sS mM aA bB tT cC QQ G AA 7 [[(X 0, .inr (9, [.ref (X 1), .int (nI nb), .ref (X 2), .ref (X 6), .ref (X 8), .ref (X 10), .ref (X 14), .ref (X 18), .int (nI nl), .int du, .ref (X 19), .int mo, .ref (X 20), .int cl]))], [(X 10, .inr (3, [.ref (X 11), .ref (X 12), .ref (X 13), .int (nI S.2.1), .ref (O 0), .int (S.1 0), .int (S.1 1), .int (S.1 2), .int (S.1 3), .int (S.1 4), .int (S.1 5), .int (S.1 6)]))], [(X 11, .inl (G.2.1 4, 5, .inr (.inr (.inr (.inr (refA 5 C))))))], [(X 12, .inl (G.2.1 0, 5, .inl S.2.2.2.2.2))], famW 5 (fun ι => chP G (C ι) (S.2.2.1 ι)), [(X 13, .inl (G.2.1 4, 3, .inr (.inr (.inr (.inr (refA 3 W))))))], famW 3 (fun ι => chP G (W ι) (S.2.2.2.1 ι))] (16 * 5 + 8 * i + 2 * w) (96 * 5 + 48 * i + 12 * w) 65 [(0, .ref (X 0)), (1, .long d), (3, .long (fl1 ((fun ι κ => qMod (S.2.2.2.1 ι).2.1 κ) i) w (fl2 (fun ι κ => qMod (S.2.2.2.1 ι).2.1 κ) 4 i (fl2 (fun ι κ => qCell (S.2.2.1 ι) (S.2.2.2.2.2 ι) κ) 8 5 d)))), (5, .int (nI i)), (6, .int (nI w))] [] := by
                intro fuel
                induction fuel with
                | zero => intro w hw hm; exact absurd hm (Nat.not_lt_zero _)
                | succ fuel ih =>
                  intro w hw hm
                  refine V_iload hC dX8_digestKiln_65 4 rfl ?_
                  refine V_iconst hC dX8_digestKiln_67 (v := 4) (by decide) ?_
                  refine V_icmp_ge hC dX8_digestKiln_68 (tgt := 91) (by decide) (fun h6 => ?_) (fun h6 => ?_)
                  · have he : w = 4 := by have := nle (a := 4) h6; omega
                    rw [he]
                    refine V_iinc hC dX8_digestKiln_91 (v := nI (i + 1)) (L' := [(5, .int (nI (i + 1))), (0, .ref (X 0)), (1, .long d), (3, .long (fl1 ((fun ι κ => qMod (S.2.2.2.1 ι).2.1 κ) i) 4 (fl2 (fun ι κ => qMod (S.2.2.2.1 ι).2.1 κ) 4 i (fl2 (fun ι κ => qCell (S.2.2.1 ι) (S.2.2.2.2.2 ι) κ) 8 5 d)))), (6, .int (nI 4))]) (j := 3) rfl (nI_1 _) (by decide) rfl ?_
                    refine V_goto hC dX8_digestKiln_94 (tgt := 50) (by decide) ?_
                    refine V_loc (L' := [(0, .ref (X 0)), (1, .long d), (3, .long (fl1 ((fun ι κ => qMod (S.2.2.2.1 ι).2.1 κ) i) 4 (fl2 (fun ι κ => qMod (S.2.2.2.1 ι).2.1 κ) 4 i (fl2 (fun ι κ => qCell (S.2.2.1 ι) (S.2.2.2.2.2 ι) κ) 8 5 d)))), (5, .int (nI (i + 1)))]) [1, 2, 3, 0] rfl ?_
                    exact ih1 (i + 1) (by omega) (by omega)
                  · have hlt : w < 4 := nnle (a := 4) h6
                    refine V_lload_n hC dX8_digestKiln_71 2 rfl ?_
                    refine V_aload_n hC dX8_digestKiln_72 0 rfl ?_
                    refine V_iload hC dX8_digestKiln_73 3 rfl ?_
                    refine V_iload hC dX8_digestKiln_75 4 rfl ?_
                    refine V_calli hC (V_runV hC (rest := [.long (fl1 ((fun ι κ => qMod (S.2.2.2.1 ι).2.1 κ) i) w (fl2 (fun ι κ => qMod (S.2.2.2.1 ι).2.1 κ) 4 i (fl2 (fun ι κ => qCell (S.2.2.1 ι) (S.2.2.2.2.2 ι) κ) 8 5 d)))]) [.int (nI i), .int (nI w)] (Mi_of_Xi (fun E hE => hE.elim (fun e => ixB_no hli e.2) (fun e => e.2.2 (inR_nI (M := 3) (by omega)))) (c_X8_modulus l hl0 G X nb nl du mo cl W O S (nI i) (nI w) hq3)) [0, 1, 5, 6] rfl (by decide) q658 q562 q563 q20 q564 ⟨by decide, by decide, rfl⟩ ⟨by decide, by decide⟩ (ci := 9) rfl (mem_at 0 0 rfl rfl) rfl (Nat.le_of_ble_eq_true rfl) ⟨(by show 16 * 5 + 8 * i + 2 * w + 2 ≤ 104; omega), (by show 96 * 5 + 48 * i + 12 * w + 12 ≤ 624; omega)⟩ dX8_digestKiln_77) (is := [0, 1, 5, 6]) rfl [2, 3, 4] (rs := [[(X 11, .inl (G.2.1 4, 5, .inr (.inr (.inr (.inr (refA 5 C))))))], [(X 12, .inl (G.2.1 0, 5, .inl S.2.2.2.2.2))], famW 5 (fun ι => chP G (C ι) (S.2.2.1 ι))]) rfl (by decide) (by decide) ?_
                    rintro _ _ ⟨i7, w7, hi2, hb2, hw2, hx2, rfl, rfl⟩
                    refine V_eqi (y := qMod (S.2.2.2.1 i).2.1 w) (by rw [nI_inj hb2, nI_inj hx2]) ?_
                    refine V_i2l hC dX8_digestKiln_80 ?_
                    refine V_calll hC (V_runS hC (rest := []) [.long (fl1 ((fun ι κ => qMod (S.2.2.2.1 ι).2.1 κ) i) w (fl2 (fun ι κ => qMod (S.2.2.2.1 ι).2.1 κ) 4 i (fl2 (fun ι κ => qCell (S.2.2.1 ι) (S.2.2.2.2.2 ι) κ) 8 5 d))), .long ((qMod (S.2.2.2.1 i).2.1 w).toInt64)] (c_X8_fold l G (fl1 ((fun ι κ => qMod (S.2.2.2.1 ι).2.1 κ) i) w (fl2 (fun ι κ => qMod (S.2.2.2.1 ι).2.1 κ) 4 i (fl2 (fun ι κ => qCell (S.2.2.1 ι) (S.2.2.2.2.2 ι) κ) 8 5 d))) ((qMod (S.2.2.2.1 i).2.1 w).toInt64)) [] rfl (by decide) q632 q633 q20 q634 ⟨by decide, by decide, rfl⟩ ⟨by decide, by decide⟩ rfl (Nat.le_of_ble_eq_true rfl) ⟨(by show 16 * 5 + 8 * i + 2 * w + 2 + 0 ≤ 104; omega), (by show 96 * 5 + 48 * i + 12 * w + 12 + 0 ≤ 624; omega)⟩ dX8_digestKiln_81) (is := []) rfl [0, 1, 2, 3, 4, 5, 6] (rs := [[(X 0, .inr (9, [.ref (X 1), .int (nI nb), .ref (X 2), .ref (X 6), .ref (X 8), .ref (X 10), .ref (X 14), .ref (X 18), .int (nI nl), .int du, .ref (X 19), .int mo, .ref (X 20), .int cl]))], [(X 10, .inr (3, [.ref (X 11), .ref (X 12), .ref (X 13), .int (nI S.2.1), .ref (O 0), .int (S.1 0), .int (S.1 1), .int (S.1 2), .int (S.1 3), .int (S.1 4), .int (S.1 5), .int (S.1 6)]))], [(X 13, .inl (G.2.1 4, 3, .inr (.inr (.inr (.inr (refA 3 W))))))], famW 3 (fun ι => chP G (W ι) (S.2.2.2.1 ι)), [(X 11, .inl (G.2.1 4, 5, .inr (.inr (.inr (.inr (refA 5 C))))))], [(X 12, .inl (G.2.1 0, 5, .inl S.2.2.2.2.2))], famW 5 (fun ι => chP G (C ι) (S.2.2.1 ι))]) rfl (by decide) (by decide) ?_
                    rintro _ _ ⟨rfl, rfl⟩
                    refine V_lstore_n hC dX8_digestKiln_84 (L' := [(3, .long ((fl1 ((fun ι κ => qMod (S.2.2.2.1 ι).2.1 κ) i) w (fl2 (fun ι κ => qMod (S.2.2.2.1 ι).2.1 κ) 4 i (fl2 (fun ι κ => qCell (S.2.2.1 ι) (S.2.2.2.2.2 ι) κ) 8 5 d))) * 31 + ((qMod (S.2.2.2.1 i).2.1 w).toInt64))), (0, .ref (X 0)), (1, .long d), (5, .int (nI i)), (6, .int (nI w))]) (by decide) rfl ?_
                    refine V_iinc hC dX8_digestKiln_85 (v := nI (w + 1)) (L' := [(6, .int (nI (w + 1))), (3, .long ((fl1 ((fun ι κ => qMod (S.2.2.2.1 ι).2.1 κ) i) w (fl2 (fun ι κ => qMod (S.2.2.2.1 ι).2.1 κ) 4 i (fl2 (fun ι κ => qCell (S.2.2.1 ι) (S.2.2.2.2.2 ι) κ) 8 5 d))) * 31 + ((qMod (S.2.2.2.1 i).2.1 w).toInt64))), (0, .ref (X 0)), (1, .long d), (5, .int (nI i))]) (j := 4) rfl (nI_1 _) (by decide) rfl ?_
                    refine V_goto hC dX8_digestKiln_88 (tgt := 65) (by decide) ?_
                    refine V_loc (L' := [(0, .ref (X 0)), (1, .long d), (3, .long ((fl1 ((fun ι κ => qMod (S.2.2.2.1 ι).2.1 κ) i) w (fl2 (fun ι κ => qMod (S.2.2.2.1 ι).2.1 κ) 4 i (fl2 (fun ι κ => qCell (S.2.2.1 ι) (S.2.2.2.2.2 ι) κ) 8 5 d))) * 31 + ((qMod (S.2.2.2.1 i).2.1 w).toInt64))), (5, .int (nI i)), (6, .int (nI (w + 1)))]) [2, 3, 1, 4, 0] rfl ?_
                    refine V_sub [0, 1, 4, 5, 6, 2, 3] (by decide) (u := [[(X 0, .inr (9, [.ref (X 1), .int (nI nb), .ref (X 2), .ref (X 6), .ref (X 8), .ref (X 10), .ref (X 14), .ref (X 18), .int (nI nl), .int du, .ref (X 19), .int mo, .ref (X 20), .int cl]))], [(X 10, .inr (3, [.ref (X 11), .ref (X 12), .ref (X 13), .int (nI S.2.1), .ref (O 0), .int (S.1 0), .int (S.1 1), .int (S.1 2), .int (S.1 3), .int (S.1 4), .int (S.1 5), .int (S.1 6)]))], [(X 11, .inl (G.2.1 4, 5, .inr (.inr (.inr (.inr (refA 5 C))))))], [(X 12, .inl (G.2.1 0, 5, .inl S.2.2.2.2.2))], famW 5 (fun ι => chP G (C ι) (S.2.2.1 ι)), [(X 13, .inl (G.2.1 4, 3, .inr (.inr (.inr (.inr (refA 3 W))))))], famW 3 (fun ι => chP G (W ι) (S.2.2.2.1 ι))]) rfl ?_
                    exact ih (w + 1) (by omega) (by omega)
              refine V_loc (L' := [(0, .ref (X 0)), (1, .long d), (3, .long (fl2 (fun ι κ => qMod (S.2.2.2.1 ι).2.1 κ) 4 i (fl2 (fun ι κ => qCell (S.2.2.1 ι) (S.2.2.2.2.2 ι) κ) 8 5 d))), (5, .int (nI i)), (6, .int 0)]) [1, 2, 3, 4, 0] rfl ?_
              exact loop5 (4 + 1) 0 (Nat.zero_le _) (by omega)
        refine V_loc (L' := [(0, .ref (X 0)), (1, .long d), (3, .long (fl2 (fun ι κ => qCell (S.2.2.1 ι) (S.2.2.2.2.2 ι) κ) 8 5 (d))), (5, .int 0)]) [1, 2, 3, 0] rfl ?_
        exact loop3 (S.2.1 + 1) 0 (Nat.zero_le _) (by omega)
      · have hli : i < 5 := nnle (a := 5) h2
        refine V_iconst hC dX8_digestKiln_11 (v := 0) (by decide) ?_
        refine V_istore hC dX8_digestKiln_12 (L' := [(6, .int 0), (0, .ref (X 0)), (1, .long d), (3, .long (fl2 (fun ι κ => qCell (S.2.2.1 ι) (S.2.2.2.2.2 ι) κ) 8 i (d))), (5, .int (nI i))]) (by decide) rfl ?_
        have loop8 : ∀ (fuel : Nat) (w : Nat) (hw : w ≤ 8) (_ : 8 - w < fuel), V pP l eE { frames := 8, cells := 104, slots := 624, locals := 127 } sS mM aA bB tT cC QQ G AA 7 [[(X 0, .inr (9, [.ref (X 1), .int (nI nb), .ref (X 2), .ref (X 6), .ref (X 8), .ref (X 10), .ref (X 14), .ref (X 18), .int (nI nl), .int du, .ref (X 19), .int mo, .ref (X 20), .int cl]))], [(X 10, .inr (3, [.ref (X 11), .ref (X 12), .ref (X 13), .int (nI S.2.1), .ref (O 0), .int (S.1 0), .int (S.1 1), .int (S.1 2), .int (S.1 3), .int (S.1 4), .int (S.1 5), .int (S.1 6)]))], [(X 11, .inl (G.2.1 4, 5, .inr (.inr (.inr (.inr (refA 5 C))))))], [(X 12, .inl (G.2.1 0, 5, .inl S.2.2.2.2.2))], famW 5 (fun ι => chP G (C ι) (S.2.2.1 ι)), [(X 13, .inl (G.2.1 4, 3, .inr (.inr (.inr (.inr (refA 3 W))))))], famW 3 (fun ι => chP G (W ι) (S.2.2.2.1 ι))] (16 * i + 2 * w) (96 * i + 12 * w) 14 [(0, .ref (X 0)), (1, .long d), (3, .long (fl1 ((fun ι κ => qCell (S.2.2.1 ι) (S.2.2.2.2.2 ι) κ) i) w (fl2 (fun ι κ => qCell (S.2.2.1 ι) (S.2.2.2.2.2 ι) κ) 8 i (d)))), (5, .int (nI i)), (6, .int (nI w))] [] := by
          intro fuel
          induction fuel with
          | zero => intro w hw hm; exact absurd hm (Nat.not_lt_zero _)
          | succ fuel ih =>
            intro w hw hm
            refine V_iload hC dX8_digestKiln_14 4 rfl ?_
            refine V_bipush hC dX8_digestKiln_16 (v := 8) (by decide) ?_
            refine V_icmp_ge hC dX8_digestKiln_18 (tgt := 41) (by decide) (fun h9 => ?_) (fun h9 => ?_)
            · have he : w = 8 := by have := nle (a := 8) h9; omega
              rw [he]
              refine V_iinc hC dX8_digestKiln_41 (v := nI (i + 1)) (L' := [(5, .int (nI (i + 1))), (0, .ref (X 0)), (1, .long d), (3, .long (fl1 ((fun ι κ => qCell (S.2.2.1 ι) (S.2.2.2.2.2 ι) κ) i) 8 (fl2 (fun ι κ => qCell (S.2.2.1 ι) (S.2.2.2.2.2 ι) κ) 8 i (d)))), (6, .int (nI 8))]) (j := 3) rfl (nI_1 _) (by decide) rfl ?_
              refine V_goto hC dX8_digestKiln_44 (tgt := 5) (by decide) ?_
              refine V_loc (L' := [(0, .ref (X 0)), (1, .long d), (3, .long (fl1 ((fun ι κ => qCell (S.2.2.1 ι) (S.2.2.2.2.2 ι) κ) i) 8 (fl2 (fun ι κ => qCell (S.2.2.1 ι) (S.2.2.2.2.2 ι) κ) 8 i (d)))), (5, .int (nI (i + 1)))]) [1, 2, 3, 0] rfl ?_
              exact ih1 (i + 1) (by omega) (by omega)
            · have hlt : w < 8 := nnle (a := 8) h9
              refine V_lload_n hC dX8_digestKiln_21 2 rfl ?_
              refine V_aload_n hC dX8_digestKiln_22 0 rfl ?_
              refine V_iload hC dX8_digestKiln_23 3 rfl ?_
              refine V_iload hC dX8_digestKiln_25 4 rfl ?_
              refine V_calli hC (V_runV hC (rest := [.long (fl1 ((fun ι κ => qCell (S.2.2.1 ι) (S.2.2.2.2.2 ι) κ) i) w (fl2 (fun ι κ => qCell (S.2.2.1 ι) (S.2.2.2.2.2 ι) κ) 8 i (d)))]) [.int (nI i), .int (nI w)] (Mi_of_Xi (fun E hE => hE.elim (fun e => ixB_no (n := 5) hli e.2) (fun e => e.2.2 (inR_nI (M := 7) (by omega)))) (c_X8_ofCell l hl0 G X nb nl du mo cl C O S (nI i) (nI w))) [0, 1, 2, 3, 4] rfl (by decide) q653 q654 q655 q20 q656 ⟨by decide, by decide, rfl⟩ ⟨by decide, by decide⟩ (ci := 9) rfl (mem_at 0 0 rfl rfl) rfl (Nat.le_of_ble_eq_true rfl) ⟨(by show 16 * i + 2 * w + 2 ≤ 104; omega), (by show 96 * i + 12 * w + 12 ≤ 624; omega)⟩ dX8_digestKiln_27) (is := [0, 1, 2, 3, 4]) rfl [5, 6] (rs := [[(X 13, .inl (G.2.1 4, 3, .inr (.inr (.inr (.inr (refA 3 W))))))], famW 3 (fun ι => chP G (W ι) (S.2.2.2.1 ι))]) rfl (by decide) (by decide) ?_
              rintro _ _ ⟨i10, w10, hi2, hb2, hw2, hx2, rfl, rfl⟩
              refine V_eqi (y := qCell (S.2.2.1 i) (S.2.2.2.2.2 i) w) (by rw [nI_inj hb2, nI_inj hx2]) ?_
              refine V_i2l hC dX8_digestKiln_30 ?_
              refine V_calll hC (V_runS hC (rest := []) [.long (fl1 ((fun ι κ => qCell (S.2.2.1 ι) (S.2.2.2.2.2 ι) κ) i) w (fl2 (fun ι κ => qCell (S.2.2.1 ι) (S.2.2.2.2.2 ι) κ) 8 i (d))), .long ((qCell (S.2.2.1 i) (S.2.2.2.2.2 i) w).toInt64)] (c_X8_fold l G (fl1 ((fun ι κ => qCell (S.2.2.1 ι) (S.2.2.2.2.2 ι) κ) i) w (fl2 (fun ι κ => qCell (S.2.2.1 ι) (S.2.2.2.2.2 ι) κ) 8 i (d))) ((qCell (S.2.2.1 i) (S.2.2.2.2.2 i) w).toInt64)) [] rfl (by decide) q632 q633 q20 q634 ⟨by decide, by decide, rfl⟩ ⟨by decide, by decide⟩ rfl (Nat.le_of_ble_eq_true rfl) ⟨(by show 16 * i + 2 * w + 2 + 0 ≤ 104; omega), (by show 96 * i + 12 * w + 12 + 0 ≤ 624; omega)⟩ dX8_digestKiln_31) (is := []) rfl [0, 1, 2, 3, 4, 5, 6] (rs := [[(X 0, .inr (9, [.ref (X 1), .int (nI nb), .ref (X 2), .ref (X 6), .ref (X 8), .ref (X 10), .ref (X 14), .ref (X 18), .int (nI nl), .int du, .ref (X 19), .int mo, .ref (X 20), .int cl]))], [(X 10, .inr (3, [.ref (X 11), .ref (X 12), .ref (X 13), .int (nI S.2.1), .ref (O 0), .int (S.1 0), .int (S.1 1), .int (S.1 2), .int (S.1 3), .int (S.1 4), .int (S.1 5), .int (S.1 6)]))], [(X 11, .inl (G.2.1 4, 5, .inr (.inr (.inr (.inr (refA 5 C))))))], [(X 12, .inl (G.2.1 0, 5, .inl S.2.2.2.2.2))], famW 5 (fun ι => chP G (C ι) (S.2.2.1 ι)), [(X 13, .inl (G.2.1 4, 3, .inr (.inr (.inr (.inr (refA 3 W))))))], famW 3 (fun ι => chP G (W ι) (S.2.2.2.1 ι))]) rfl (by decide) (by decide) ?_
              rintro _ _ ⟨rfl, rfl⟩
              refine V_lstore_n hC dX8_digestKiln_34 (L' := [(3, .long ((fl1 ((fun ι κ => qCell (S.2.2.1 ι) (S.2.2.2.2.2 ι) κ) i) w (fl2 (fun ι κ => qCell (S.2.2.1 ι) (S.2.2.2.2.2 ι) κ) 8 i (d))) * 31 + ((qCell (S.2.2.1 i) (S.2.2.2.2.2 i) w).toInt64))), (0, .ref (X 0)), (1, .long d), (5, .int (nI i)), (6, .int (nI w))]) (by decide) rfl ?_
              refine V_iinc hC dX8_digestKiln_35 (v := nI (w + 1)) (L' := [(6, .int (nI (w + 1))), (3, .long ((fl1 ((fun ι κ => qCell (S.2.2.1 ι) (S.2.2.2.2.2 ι) κ) i) w (fl2 (fun ι κ => qCell (S.2.2.1 ι) (S.2.2.2.2.2 ι) κ) 8 i (d))) * 31 + ((qCell (S.2.2.1 i) (S.2.2.2.2.2 i) w).toInt64))), (0, .ref (X 0)), (1, .long d), (5, .int (nI i))]) (j := 4) rfl (nI_1 _) (by decide) rfl ?_
              refine V_goto hC dX8_digestKiln_38 (tgt := 14) (by decide) ?_
              refine V_loc (L' := [(0, .ref (X 0)), (1, .long d), (3, .long ((fl1 ((fun ι κ => qCell (S.2.2.1 ι) (S.2.2.2.2.2 ι) κ) i) w (fl2 (fun ι κ => qCell (S.2.2.1 ι) (S.2.2.2.2.2 ι) κ) 8 i (d))) * 31 + ((qCell (S.2.2.1 i) (S.2.2.2.2.2 i) w).toInt64))), (5, .int (nI i)), (6, .int (nI (w + 1)))]) [2, 3, 1, 4, 0] rfl ?_
              exact ih (w + 1) (by omega) (by omega)
        refine V_loc (L' := [(0, .ref (X 0)), (1, .long d), (3, .long (fl2 (fun ι κ => qCell (S.2.2.1 ι) (S.2.2.2.2.2 ι) κ) 8 i (d))), (5, .int (nI i)), (6, .int 0)]) [1, 2, 3, 4, 0] rfl ?_
        exact loop8 (8 + 1) 0 (Nat.zero_le _) (by omega)
  refine V_loc (L' := [(0, .ref (X 0)), (1, .long d), (3, .long d), (5, .int 0)]) [2, 3, 1, 0] rfl ?_
  exact loop1 (5 + 1) 0 (Nat.zero_le _) (by omega)
set_option maxHeartbeats 4000000 in
set_option maxRecDepth 100000 in
/-- ClinkerWorks.digestLots -/
theorem c_X8_digestLots (l : Launch) (hl0 : l.stackTraces = false) (G : VG) (X : Nat → Nat) (nb nl : Nat) (du mo cl : Int32) (T : Nat → Nat → Nat) (lz : Nat → LV) (d : Int64) (hnl : nl ≤ 12) : Ml l G yX8_digestLots cX8_digestLots 7 8 128 552 3312 [.ref (X 0), .long d] [[(X 0, .inr (9, [.ref (X 1), .int (nI nb), .ref (X 2), .ref (X 6), .ref (X 8), .ref (X 10), .ref (X 14), .ref (X 18), .int (nI nl), .int du, .ref (X 19), .int mo, .ref (X 20), .int cl]))], [(X 18, .inl (G.2.1 5, 12, .inr (.inr (.inr (.inr (refA 12 T))))))], famW 12 (fun ι => ltP G (T ι) (lz ι))] (fun r u => r = flL lz nl nl d ∧ u = [[(X 0, .inr (9, [.ref (X 1), .int (nI nb), .ref (X 2), .ref (X 6), .ref (X 8), .ref (X 10), .ref (X 14), .ref (X 18), .int (nI nl), .int du, .ref (X 19), .int mo, .ref (X 20), .int cl]))], [(X 18, .inl (G.2.1 5, 12, .inr (.inr (.inr (.inr (refA 12 T))))))], famW 12 (fun ι => ltP G (T ι) (lz ι))]) := by
  refine Ml_of (by decide) (Nat.le_of_ble_eq_true rfl) (fun pP eE sS mM aA bB tT cC AA QQ hC hr hnm hQ => ?_)
  refine V_lload_n hC dX8_digestLots_0 1 rfl ?_
  refine V_lstore_n hC dX8_digestLots_1 (L' := [(3, .long d), (0, .ref (X 0)), (1, .long d)]) (by decide) rfl ?_
  refine V_iconst hC dX8_digestLots_2 (v := 0) (by decide) ?_
  refine V_istore hC dX8_digestLots_3 (L' := [(5, .int 0), (3, .long d), (0, .ref (X 0)), (1, .long d)]) (by decide) rfl ?_
  have loop1 : ∀ (fuel : Nat) (i : Nat) (hi : i ≤ nl) (_ : nl - i < fuel), V pP l eE { frames := 8, cells := 552, slots := 3312, locals := 128 } sS mM aA bB tT cC QQ G AA 7 [[(X 0, .inr (9, [.ref (X 1), .int (nI nb), .ref (X 2), .ref (X 6), .ref (X 8), .ref (X 10), .ref (X 14), .ref (X 18), .int (nI nl), .int du, .ref (X 19), .int mo, .ref (X 20), .int cl]))], [(X 18, .inl (G.2.1 5, 12, .inr (.inr (.inr (.inr (refA 12 T))))))], famW 12 (fun ι => ltP G (T ι) (lz ι))] (46 * i) (276 * i) 5 [(0, .ref (X 0)), (1, .long d), (3, .long (flL lz nl i d)), (5, .int (nI i))] [] := by
    intro fuel
    induction fuel with
    | zero => intro i hi hm; exact absurd hm (Nat.not_lt_zero _)
    | succ fuel ih =>
      intro i hi hm
      have ih1 := ih
      refine V_iload hC dX8_digestLots_5 3 rfl ?_
      refine V_aload_n hC dX8_digestLots_7 0 rfl ?_
      refine V_get hC dX8_digestLots_8 inAX8 (mem_at 0 0 rfl rfl) rfl 8 (by decide) q280 rfl (v := .int (nI nl)) rfl ?_
      refine V_icmp_ge hC dX8_digestLots_11 (tgt := 76) (by decide) (fun h2 => ?_) (fun h2 => ?_)
      · have he : i = nl := by have := nle h2; omega
        rw [he]
        refine V_lload_n hC dX8_digestLots_76 2 rfl ?_
        exact V_lret hC hQ hr [0, 1, 2] (u := [[(X 0, .inr (9, [.ref (X 1), .int (nI nb), .ref (X 2), .ref (X 6), .ref (X 8), .ref (X 10), .ref (X 14), .ref (X 18), .int (nI nl), .int du, .ref (X 19), .int mo, .ref (X 20), .int cl]))], [(X 18, .inl (G.2.1 5, 12, .inr (.inr (.inr (.inr (refA 12 T))))))], famW 12 (fun ι => ltP G (T ι) (lz ι))]) (by decide) rfl (by show 46 * nl ≤ 552; omega) (by show 276 * nl ≤ 3312; omega) dX8_digestLots_77 (⟨rfl, rfl⟩)
      · have hli := nnle h2
        refine V_iconst hC dX8_digestLots_14 (v := 0) (by decide) ?_
        refine V_istore hC dX8_digestLots_15 (L' := [(6, .int 0), (0, .ref (X 0)), (1, .long d), (3, .long (flL lz nl i d)), (5, .int (nI i))]) (by decide) rfl ?_
        have loop3 : ∀ (fuel : Nat) (w : Nat) (hw : w ≤ 22) (_ : 22 - w < fuel), V pP l eE { frames := 8, cells := 552, slots := 3312, locals := 128 } sS mM aA bB tT cC QQ G AA 7 [[(X 0, .inr (9, [.ref (X 1), .int (nI nb), .ref (X 2), .ref (X 6), .ref (X 8), .ref (X 10), .ref (X 14), .ref (X 18), .int (nI nl), .int du, .ref (X 19), .int mo, .ref (X 20), .int cl]))], [(X 18, .inl (G.2.1 5, 12, .inr (.inr (.inr (.inr (refA 12 T))))))], famW 12 (fun ι => ltP G (T ι) (lz ι))] (46 * i + 2 * w) (276 * i + 12 * w) 17 [(0, .ref (X 0)), (1, .long d), (3, .long (fl1 (qLot (lz i)) w (flL lz nl i d))), (5, .int (nI i)), (6, .int (nI w))] [] := by
          intro fuel
          induction fuel with
          | zero => intro w hw hm; exact absurd hm (Nat.not_lt_zero _)
          | succ fuel ih =>
            intro w hw hm
            refine V_iload hC dX8_digestLots_17 4 rfl ?_
            refine V_bipush hC dX8_digestLots_19 (v := 22) (by decide) ?_
            refine V_icmp_ge hC dX8_digestLots_21 (tgt := 44) (by decide) (fun h4 => ?_) (fun h4 => ?_)
            · have he : w = 22 := by have := nle (a := 22) h4; omega
              rw [he]
              refine V_aload_n hC dX8_digestLots_44 0 rfl ?_
              refine V_get hC dX8_digestLots_45 inAX8 (mem_at 0 0 rfl rfl) rfl 7 (by decide) q279 rfl (v := .ref (X 18)) rfl ?_
              refine V_iload hC dX8_digestLots_48 3 rfl ?_
              refine V_aald hC dX8_digestLots_50 5 rfl (mem_at 1 0 rfl rfl) (vp_in_nI (by omega) (by omega)) (x := i) (nI_clamp (by omega)) (b := (T i) 0) (refA_at (by omega)) ?_
              refine V_iconst hC dX8_digestLots_51 (v := 1) (by decide) ?_
              refine V_sub [2, 0, 1] (by decide) (u := [famW 12 (fun ι => ltP G (T ι) (lz ι)), [(X 0, .inr (9, [.ref (X 1), .int (nI nb), .ref (X 2), .ref (X 6), .ref (X 8), .ref (X 10), .ref (X 14), .ref (X 18), .int (nI nl), .int du, .ref (X 19), .int mo, .ref (X 20), .int cl]))], [(X 18, .inl (G.2.1 5, 12, .inr (.inr (.inr (.inr (refA 12 T))))))]]) rfl ?_
              refine V_open (i := i) (by omega) ?_
              refine V_calli hC (V_runV hC (rest := []) [.int 1] (k_X3_isFound l G (T i) (lz i) 1 1 (by decide) rfl) [0] rfl (by decide) q664 q665 q666 q27 q667 ⟨by decide, by decide, rfl⟩ ⟨by decide, by decide⟩ (ci := 4) rfl (mem_at 0 0 rfl rfl) rfl (Nat.le_of_ble_eq_true rfl) ⟨(by show 46 * i + 2 * 22 + 0 ≤ 552; omega), (by show 276 * i + 12 * 22 + 0 ≤ 3312; omega)⟩ dX8_digestLots_52) (is := [0]) rfl [1, 2, 3] (rs := [famX 12 i (fun ι => ltP G (T ι) (lz ι)), [(X 0, .inr (9, [.ref (X 1), .int (nI nb), .ref (X 2), .ref (X 6), .ref (X 8), .ref (X 10), .ref (X 14), .ref (X 18), .int (nI nl), .int du, .ref (X 19), .int mo, .ref (X 20), .int cl]))], [(X 18, .inl (G.2.1 5, 12, .inr (.inr (.inr (.inr (refA 12 T))))))]]) rfl (by decide) (by decide) ?_
              rintro _ _ ⟨rfl, rfl⟩
              refine V_close (i := i) (g' := fun ι => ltP G (T ι) (lz ι)) (by omega) (rfl) (fun _ _ _ => rfl) ?_
              refine V_if_eq hC dX8_digestLots_55 (tgt := 70) (by decide) (fun h5 => ?_) (fun h5 => ?_)
              · refine V_up (k' := 46 * i + 46) (n' := 276 * i + 276) ?_ (by omega) (by omega)
                refine V_iinc hC dX8_digestLots_70 (v := nI (i + 1)) (L' := [(5, .int (nI (i + 1))), (0, .ref (X 0)), (1, .long d), (3, .long (fl1 (qLot (lz i)) 22 (flL lz nl i d))), (6, .int (nI 22))]) (j := 3) rfl (nI_1 _) (by decide) rfl ?_
                refine V_goto hC dX8_digestLots_73 (tgt := 5) (by decide) ?_
                refine V_loc (L' := [(0, .ref (X 0)), (1, .long d), (3, .long (fl1 (qLot (lz i)) 22 (flL lz nl i d))), (5, .int (nI (i + 1)))]) [1, 2, 3, 0] rfl ?_
                refine V_sub [1, 2, 0] (by decide) (u := [[(X 0, .inr (9, [.ref (X 1), .int (nI nb), .ref (X 2), .ref (X 6), .ref (X 8), .ref (X 10), .ref (X 14), .ref (X 18), .int (nI nl), .int du, .ref (X 19), .int mo, .ref (X 20), .int cl]))], [(X 18, .inl (G.2.1 5, 12, .inr (.inr (.inr (.inr (refA 12 T))))))], famW 12 (fun ι => ltP G (T ι) (lz ι))]) rfl ?_
                have hh := ih1 (i + 1) (by omega) (by omega)
                rw [show flL lz nl (i + 1) d = fl1 (qLot (lz i)) 22 (flL lz nl i d) from if_pos h5] at hh
                exact hh
              · refine V_lload_n hC dX8_digestLots_58 2 rfl ?_
                refine V_aload_n hC dX8_digestLots_59 0 rfl ?_
                refine V_iload hC dX8_digestLots_60 3 rfl ?_
                refine V_calli hC (V_runV hC (rest := [.long (fl1 (qLot (lz i)) 22 (flL lz nl i d))]) [.int (nI i)] (Mi_of_Xi (fun E hE => hE.elim (fun e => ixB_no hli e.2) (fun e => by have e2 := e.2.2; rw [nI_clamp (by omega)] at e2; exact h5 e2)) (c_X8_thought l hl0 G X nb nl du mo cl T lz (nI i) hnl)) [1, 2, 0] rfl (by decide) q669 q670 q671 q20 q672 ⟨by decide, by decide, rfl⟩ ⟨by decide, by decide⟩ (ci := 9) rfl (mem_at 1 0 rfl rfl) rfl (Nat.le_of_ble_eq_true rfl) ⟨(by show 46 * i + 2 * 22 + 0 + 2 ≤ 552; omega), (by show 276 * i + 12 * 22 + 0 + 12 ≤ 3312; omega)⟩ dX8_digestLots_62) (is := [1, 2, 0]) rfl [] (rs := []) rfl (by decide) (by decide) ?_
                rintro _ _ ⟨i6, hi2, hb2, hg2, rfl, rfl⟩
                refine V_eqi (y := (lz i).2.1 1 + ugR lz i nl) (by rw [nI_inj hb2]) ?_
                refine V_i2l hC dX8_digestLots_65 ?_
                refine V_calll hC (V_runS hC (rest := []) [.long (fl1 (qLot (lz i)) 22 (flL lz nl i d)), .long (((lz i).2.1 1 + ugR lz i nl).toInt64)] (c_X8_fold l G (fl1 (qLot (lz i)) 22 (flL lz nl i d)) (((lz i).2.1 1 + ugR lz i nl).toInt64)) [] rfl (by decide) q632 q633 q20 q634 ⟨by decide, by decide, rfl⟩ ⟨by decide, by decide⟩ rfl (Nat.le_of_ble_eq_true rfl) ⟨(by show 46 * i + 2 * 22 + 0 + 2 + 0 ≤ 552; omega), (by show 276 * i + 12 * 22 + 0 + 12 + 0 ≤ 3312; omega)⟩ dX8_digestLots_66) (is := []) rfl [0, 1, 2] (rs := [[(X 0, .inr (9, [.ref (X 1), .int (nI nb), .ref (X 2), .ref (X 6), .ref (X 8), .ref (X 10), .ref (X 14), .ref (X 18), .int (nI nl), .int du, .ref (X 19), .int mo, .ref (X 20), .int cl]))], [(X 18, .inl (G.2.1 5, 12, .inr (.inr (.inr (.inr (refA 12 T))))))], famW 12 (fun ι => ltP G (T ι) (lz ι))]) rfl (by decide) (by decide) ?_
                rintro _ _ ⟨rfl, rfl⟩
                refine V_lstore_n hC dX8_digestLots_69 (L' := [(3, .long ((fl1 (qLot (lz i)) 22 (flL lz nl i d)) * 31 + (((lz i).2.1 1 + ugR lz i nl).toInt64))), (0, .ref (X 0)), (1, .long d), (5, .int (nI i)), (6, .int (nI 22))]) (by decide) rfl ?_
                refine V_up (k' := 46 * i + 46) (n' := 276 * i + 276) ?_ (by omega) (by omega)
                refine V_iinc hC dX8_digestLots_70 (v := nI (i + 1)) (L' := [(5, .int (nI (i + 1))), (3, .long ((fl1 (qLot (lz i)) 22 (flL lz nl i d)) * 31 + (((lz i).2.1 1 + ugR lz i nl).toInt64))), (0, .ref (X 0)), (1, .long d), (6, .int (nI 22))]) (j := 3) rfl (nI_1 _) (by decide) rfl ?_
                refine V_goto hC dX8_digestLots_73 (tgt := 5) (by decide) ?_
                refine V_loc (L' := [(0, .ref (X 0)), (1, .long d), (3, .long ((fl1 (qLot (lz i)) 22 (flL lz nl i d)) * 31 + (((lz i).2.1 1 + ugR lz i nl).toInt64))), (5, .int (nI (i + 1)))]) [2, 3, 1, 0] rfl ?_
                have hh := ih1 (i + 1) (by omega) (by omega)
                rw [show flL lz nl (i + 1) d = fl1 (qLot (lz i)) 22 (flL lz nl i d) * 31 + ((lz i).2.1 1 + ugR lz i nl).toInt64 from if_neg h5] at hh
                exact hh
            · have hlt : w < 22 := nnle (a := 22) h4
              refine V_lload_n hC dX8_digestLots_24 2 rfl ?_
              refine V_aload_n hC dX8_digestLots_25 0 rfl ?_
              refine V_iload hC dX8_digestLots_26 3 rfl ?_
              refine V_iload hC dX8_digestLots_28 4 rfl ?_
              refine V_calli hC (V_runV hC (rest := [.long (fl1 (qLot (lz i)) w (flL lz nl i d))]) [.int (nI i), .int (nI w)] (Mi_of_Xi (fun E hE => hE.elim (fun e => ixB_no hli e.2) (fun e => e.2.2 (inR_nI (M := 21) (by omega)))) (c_X8_ofLot l hl0 G X nb nl du mo cl T lz (nI i) (nI w) hnl)) [0, 1, 2] rfl (by decide) q663 q539 q540 q20 q541 ⟨by decide, by decide, rfl⟩ ⟨by decide, by decide⟩ (ci := 9) rfl (mem_at 0 0 rfl rfl) rfl (Nat.le_of_ble_eq_true rfl) ⟨(by show 46 * i + 2 * w + 2 ≤ 552; omega), (by show 276 * i + 12 * w + 12 ≤ 3312; omega)⟩ dX8_digestLots_30) (is := [0, 1, 2]) rfl [] (rs := []) rfl (by decide) (by decide) ?_
              rintro _ _ ⟨i7, w7, hi2, hb2, hw2, hx2, rfl, rfl⟩
              refine V_eqi (y := qLot (lz i) w) (by rw [nI_inj hb2, nI_inj hx2]) ?_
              refine V_i2l hC dX8_digestLots_33 ?_
              refine V_calll hC (V_runS hC (rest := []) [.long (fl1 (qLot (lz i)) w (flL lz nl i d)), .long ((qLot (lz i) w).toInt64)] (c_X8_fold l G (fl1 (qLot (lz i)) w (flL lz nl i d)) ((qLot (lz i) w).toInt64)) [] rfl (by decide) q632 q633 q20 q634 ⟨by decide, by decide, rfl⟩ ⟨by decide, by decide⟩ rfl (Nat.le_of_ble_eq_true rfl) ⟨(by show 46 * i + 2 * w + 2 + 0 ≤ 552; omega), (by show 276 * i + 12 * w + 12 + 0 ≤ 3312; omega)⟩ dX8_digestLots_34) (is := []) rfl [0, 1, 2] (rs := [[(X 0, .inr (9, [.ref (X 1), .int (nI nb), .ref (X 2), .ref (X 6), .ref (X 8), .ref (X 10), .ref (X 14), .ref (X 18), .int (nI nl), .int du, .ref (X 19), .int mo, .ref (X 20), .int cl]))], [(X 18, .inl (G.2.1 5, 12, .inr (.inr (.inr (.inr (refA 12 T))))))], famW 12 (fun ι => ltP G (T ι) (lz ι))]) rfl (by decide) (by decide) ?_
              rintro _ _ ⟨rfl, rfl⟩
              refine V_lstore_n hC dX8_digestLots_37 (L' := [(3, .long ((fl1 (qLot (lz i)) w (flL lz nl i d)) * 31 + ((qLot (lz i) w).toInt64))), (0, .ref (X 0)), (1, .long d), (5, .int (nI i)), (6, .int (nI w))]) (by decide) rfl ?_
              refine V_iinc hC dX8_digestLots_38 (v := nI (w + 1)) (L' := [(6, .int (nI (w + 1))), (3, .long ((fl1 (qLot (lz i)) w (flL lz nl i d)) * 31 + ((qLot (lz i) w).toInt64))), (0, .ref (X 0)), (1, .long d), (5, .int (nI i))]) (j := 4) rfl (nI_1 _) (by decide) rfl ?_
              refine V_goto hC dX8_digestLots_41 (tgt := 17) (by decide) ?_
              refine V_loc (L' := [(0, .ref (X 0)), (1, .long d), (3, .long ((fl1 (qLot (lz i)) w (flL lz nl i d)) * 31 + ((qLot (lz i) w).toInt64))), (5, .int (nI i)), (6, .int (nI (w + 1)))]) [2, 3, 1, 4, 0] rfl ?_
              exact ih (w + 1) (by omega) (by omega)
        refine V_loc (L' := [(0, .ref (X 0)), (1, .long d), (3, .long (flL lz nl i d)), (5, .int (nI i)), (6, .int 0)]) [1, 2, 3, 4, 0] rfl ?_
        exact loop3 23 0 (Nat.zero_le _) (by omega)
  refine V_loc (L' := [(0, .ref (X 0)), (1, .long d), (3, .long d), (5, .int 0)]) [2, 3, 1, 0] rfl ?_
  exact loop1 (nl + 1) 0 (Nat.zero_le _) (by omega)
