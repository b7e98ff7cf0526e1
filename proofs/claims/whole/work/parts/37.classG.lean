/-! ===== what is found ===== -/
def tfC (ho cl : Int32) : Int32 := if ho = 0 then cl + 1 else cl
def tfS (ho : Int32) (z : LV) (sz : Nat → SV) : Nat → SV := if ho = 0 ∧ 0 < z.1 4 ∧ ¬ ixB (z.1 2) (nI 2) = 0 then va_up sz (z.1 2).toNatClampNeg ((sz (z.1 2).toNatClampNeg).1, 1, (sz (z.1 2).toNatClampNeg).2.2) else sz
theorem wiN_le {n : Nat} (h : n ≤ 6) : wiN n ≤ 6 := by unfold wiN; split <;> omega
theorem tfC_y {ho cl : Int32} (h : ho = 0) : tfC ho cl = cl + 1 := if_pos h
theorem tfC_n {ho cl : Int32} (h : ¬ ho = 0) : tfC ho cl = cl := if_neg h
theorem tfS_1 {ho : Int32} {z : LV} {sz : Nat → SV} (h : ¬ ho = 0) : tfS ho z sz = sz := if_neg (fun e => h e.1)
theorem tfS_2 {ho : Int32} {z : LV} {sz : Nat → SV} (h : ¬ 0 < z.1 4) : tfS ho z sz = sz := if_neg (fun e => h e.2.1)
theorem tfS_3 {ho : Int32} {z : LV} {sz : Nat → SV} (h : ixB (z.1 2) (nI 2) = 0) : tfS ho z sz = sz := if_neg (fun e => e.2.2 h)
theorem tfS_4 {ho : Int32} {z : LV} {sz : Nat → SV} {j : Nat} (h : ho = 0) (h2 : 0 < z.1 4) (hj : j < 2) (he : z.1 2 = nI j) : tfS ho z sz = va_up sz j ((sz j).1, 1, (sz j).2.2) := by
  have hb : ixB (z.1 2) (nI 2) = 1 := by rw [he]; exact ixB_in (N := 2) hj
  unfold tfS
  rw [if_pos ⟨h, h2, by rw [hb]; decide⟩, he, nI_clamp (by omega)]
theorem ltGr_1 {x : Int32} (h : ¬ ltGr x = 0) : ltGr x = 1 := by unfold ltGr at h ⊢; split; exact absurd (if_pos (by assumption)) h; rfl
def cbC (lz : Nat → LV) (wf : Nat → Int32) (wn : Nat) (ws : Int32) (i : Nat) (w : Nat) (cl : Int32) : Int32 := match w with
  | 2 => tfC (wiHolds (wiF wf wn (ltStrength 2 (lz i))) (wiN wn) ws) cl
  | _ => cl
def cbS (lz : Nat → LV) (wf : Nat → Int32) (wn : Nat) (ws : Int32) (sz : Nat → SV) (i w : Nat) : Nat → SV := match w with
  | 2 => tfS (wiHolds (wiF wf wn (ltStrength 2 (lz i))) (wiN wn) ws) (lz i) sz
  | _ => sz
def cbN (wn w : Nat) : Nat := match w with
  | 2 => wiN wn
  | _ => wn
def cbW (lz : Nat → LV) (wf : Nat → Int32) (wn i w : Nat) : Nat → Int32 := match w with
  | 2 => wiF wf wn (ltStrength 2 (lz i))
  | _ => wf
set_option maxHeartbeats 4000000 in
set_option maxRecDepth 100000 in
/-- ClinkerWorks.testFound -/
theorem c_X8_testFound (l : Launch) (G : VG) (X : Nat → Nat) (nb nl : Nat) (du mo cl : Int32) (Z : Nat → Nat → Nat) (sz : Nat → SV) (wn : Nat) (ws : Int32) (wf : Nat → Int32) (q : Nat → Nat) (z : LV) (x : Int32) (hwn : wn ≤ 6) : Mv l G yX8_testFound cX8_testFound 3 2 43 0 0 [.ref (X 0), .ref (q 0), .int x] [[(X 0, .inr (9, [.ref (X 1), .int (nI nb), .ref (X 2), .ref (X 6), .ref (X 8), .ref (X 10), .ref (X 14), .ref (X 18), .int (nI nl), .int du, .ref (X 19), .int mo, .ref (X 20), .int cl]))], ltP G q z, [(X 19, .inl (G.2.1 6, 2, .inr (.inr (.inr (.inr (refA 2 Z))))))], famW 2 (fun ι => slP G (Z ι) (sz ι)), [(X 20, .inr (8, [.ref (X 21), .int (nI wn), .int ws]))], [(X 21, .inl (G.2.1 0, 6, .inl wf))]] (fun u => u = [[(X 0, .inr (9, [.ref (X 1), .int (nI nb), .ref (X 2), .ref (X 6), .ref (X 8), .ref (X 10), .ref (X 14), .ref (X 18), .int (nI nl), .int du, .ref (X 19), .int mo, .ref (X 20), .int (tfC (wiHolds (wiF wf wn x) (wiN wn) ws) cl)]))], ltP G q z, [(X 19, .inl (G.2.1 6, 2, .inr (.inr (.inr (.inr (refA 2 Z))))))], famW 2 (fun ι => slP G (Z ι) ((tfS (wiHolds (wiF wf wn x) (wiN wn) ws) z sz) ι)), [(X 20, .inr (8, [.ref (X 21), .int (nI (wiN wn)), .int ws]))], [(X 21, .inl (G.2.1 0, 6, .inl (wiF wf wn x)))]]) := by
  refine Mv_of (by decide) (Nat.le_of_ble_eq_true rfl) (fun pP eE sS mM aA bB tT cC AA QQ hC hr hnm hQ => ?_)
  refine V_aload_n hC dX8_testFound_0 0 rfl ?_
  refine V_get hC dX8_testFound_1 inAX8 (mem_at 0 0 rfl rfl) rfl 12 (by decide) q322 rfl (v := .ref (X 20)) rfl ?_
  refine V_iload_n hC dX8_testFound_4 2 rfl ?_
  refine V_callv hC (V_runV hC (rest := []) [.int x] (c_X7_add l G (X 20) (X 21) wn ws wf x hwn) [4, 5] rfl (by decide) q884 q885 q886 q48 q887 ⟨by decide, by decide, rfl⟩ ⟨by decide, by decide⟩ (ci := 8) rfl (mem_at 4 0 rfl rfl) rfl (Nat.le_of_ble_eq_true rfl) ⟨by decide, by decide⟩ dX8_testFound_5) (is := [4, 5]) rfl [0, 1, 2, 3] (rs := [[(X 0, .inr (9, [.ref (X 1), .int (nI nb), .ref (X 2), .ref (X 6), .ref (X 8), .ref (X 10), .ref (X 14), .ref (X 18), .int (nI nl), .int du, .ref (X 19), .int mo, .ref (X 20), .int cl]))], ltP G q z, [(X 19, .inl (G.2.1 6, 2, .inr (.inr (.inr (.inr (refA 2 Z))))))], famW 2 (fun ι => slP G (Z ι) (sz ι))]) rfl (by decide) (by decide) ?_
  rintro _ rfl
  refine V_aload_n hC dX8_testFound_8 0 rfl ?_
  refine V_get hC dX8_testFound_9 inAX8 (mem_at 2 0 rfl rfl) rfl 12 (by decide) q322 rfl (v := .ref (X 20)) rfl ?_
  refine V_calli hC (V_runV hC (rest := []) [] (c_X7_holds l G (X 20) (X 21) (wiN wn) ws (wiF wf wn x) (wiN_le hwn)) [0, 1] rfl (by decide) q373 q374 q375 q48 q376 ⟨by decide, by decide, rfl⟩ ⟨by decide, by decide⟩ (ci := 8) rfl (mem_at 0 0 rfl rfl) rfl (Nat.le_of_ble_eq_true rfl) ⟨by decide, by decide⟩ dX8_testFound_12) (is := [0, 1]) rfl [2, 3, 4, 5] (rs := [[(X 0, .inr (9, [.ref (X 1), .int (nI nb), .ref (X 2), .ref (X 6), .ref (X 8), .ref (X 10), .ref (X 14), .ref (X 18), .int (nI nl), .int du, .ref (X 19), .int mo, .ref (X 20), .int cl]))], ltP G q z, [(X 19, .inl (G.2.1 6, 2, .inr (.inr (.inr (.inr (refA 2 Z))))))], famW 2 (fun ι => slP G (Z ι) (sz ι))]) rfl (by decide) (by decide) ?_
  rintro _ _ ⟨rfl, rfl⟩
  refine V_if_eq hC dX8_testFound_15 (tgt := 19) (by decide) (fun h1 => ?_) (fun h1 => ?_)
  · have hyes : (wiHolds (wiF wf wn x) (wiN wn) ws) = 0 := by first | exact h1 | exact Decidable.not_not.mp h1
    refine V_aload_n hC dX8_testFound_19 0 rfl ?_
    refine V_dup hC dX8_testFound_20 rfl ?_
    refine V_get hC dX8_testFound_21 inAX8 (mem_at 2 0 rfl rfl) rfl 13 (by decide) q323 rfl (v := .int cl) rfl ?_
    refine V_iconst hC dX8_testFound_24 (v := 1) (by decide) ?_
    refine V_iadd hC dX8_testFound_25 ?_
    refine V_put hC dX8_testFound_26 inAX8 tyX8 tyX8_ok nmX8 2 0 rfl rfl rfl 13 (by decide) q323 rfl rfl (rfl) (rfl) (Nat.le_of_ble_eq_true rfl) (ps' := [[(X 20, .inr (8, [.ref (X 21), .int (nI (wiN wn)), .int ws]))], [(X 21, .inl (G.2.1 0, 6, .inl (wiF wf wn x)))], [(X 0, .inr (9, [.ref (X 1), .int (nI nb), .ref (X 2), .ref (X 6), .ref (X 8), .ref (X 10), .ref (X 14), .ref (X 18), .int (nI nl), .int du, .ref (X 19), .int mo, .ref (X 20), .int (cl + 1)]))], ltP G q z, [(X 19, .inl (G.2.1 6, 2, .inr (.inr (.inr (.inr (refA 2 Z))))))], famW 2 (fun ι => slP G (Z ι) (sz ι))]) rfl ?_
    refine V_aload_n hC dX8_testFound_29 1 rfl ?_
    refine V_get hC dX8_testFound_30 inAX3 (mem_at 3 0 rfl rfl) rfl 5 (by decide) q276 rfl (v := .int (z.1 4)) rfl ?_
    refine V_if_le hC dX8_testFound_33 (tgt := 60) (by decide) (fun h2 => ?_) (fun h2 => ?_)
    · have hns : ¬ 0 < z.1 4 := by first | exact i32_nlt h2 | (intro e; exact h2 e)
      exact V_vret hC hQ hr [2, 3, 4, 5, 0, 1] (u := [[(X 0, .inr (9, [.ref (X 1), .int (nI nb), .ref (X 2), .ref (X 6), .ref (X 8), .ref (X 10), .ref (X 14), .ref (X 18), .int (nI nl), .int du, .ref (X 19), .int mo, .ref (X 20), .int (cl + 1)]))], ltP G q z, [(X 19, .inl (G.2.1 6, 2, .inr (.inr (.inr (.inr (refA 2 Z))))))], famW 2 (fun ι => slP G (Z ι) (sz ι)), [(X 20, .inr (8, [.ref (X 21), .int (nI (wiN wn)), .int ws]))], [(X 21, .inl (G.2.1 0, 6, .inl (wiF wf wn x)))]]) (by decide) rfl (by decide) (by decide) dX8_testFound_60 (by rw [tfC_y hyes, tfS_2 hns])
    · have hps : 0 < z.1 4 := by first | exact h2 | exact i32_lt h2
      refine V_aload_n hC dX8_testFound_36 1 rfl ?_
      refine V_get hC dX8_testFound_37 inAX3 (mem_at 3 0 rfl rfl) rfl 3 (by decide) q273 rfl (v := .int (z.1 2)) rfl ?_
      refine V_iconst hC dX8_testFound_40 (v := 2) (by decide) ?_
      refine V_calli hC (V_runS hC (rest := []) [.int (z.1 2), .int 2] (c_X8_isIndex l G (z.1 2) 2) [] rfl (by decide) q483 q484 q43 q485 ⟨by decide, by decide, rfl⟩ ⟨by decide, by decide⟩ rfl (Nat.le_of_ble_eq_true rfl) ⟨by decide, by decide⟩ dX8_testFound_41) (is := []) rfl [0, 1, 2, 3, 4, 5] (rs := [[(X 20, .inr (8, [.ref (X 21), .int (nI (wiN wn)), .int ws]))], [(X 21, .inl (G.2.1 0, 6, .inl (wiF wf wn x)))], [(X 0, .inr (9, [.ref (X 1), .int (nI nb), .ref (X 2), .ref (X 6), .ref (X 8), .ref (X 10), .ref (X 14), .ref (X 18), .int (nI nl), .int du, .ref (X 19), .int mo, .ref (X 20), .int (cl + 1)]))], ltP G q z, [(X 19, .inl (G.2.1 6, 2, .inr (.inr (.inr (.inr (refA 2 Z))))))], famW 2 (fun ι => slP G (Z ι) (sz ι))]) rfl (by decide) (by decide) ?_
      rintro _ _ ⟨rfl, rfl⟩
      refine V_if_eq hC dX8_testFound_44 (tgt := 60) (by decide) (fun h3 => ?_) (fun h3 => ?_)
      · have hj0 : ixB (z.1 2) (nI 2) = 0 := by first | exact h3 | exact Decidable.not_not.mp h3
        exact V_vret hC hQ hr [2, 3, 4, 5, 0, 1] (u := [[(X 0, .inr (9, [.ref (X 1), .int (nI nb), .ref (X 2), .ref (X 6), .ref (X 8), .ref (X 10), .ref (X 14), .ref (X 18), .int (nI nl), .int du, .ref (X 19), .int mo, .ref (X 20), .int (cl + 1)]))], ltP G q z, [(X 19, .inl (G.2.1 6, 2, .inr (.inr (.inr (.inr (refA 2 Z))))))], famW 2 (fun ι => slP G (Z ι) (sz ι)), [(X 20, .inr (8, [.ref (X 21), .int (nI (wiN wn)), .int ws]))], [(X 21, .inl (G.2.1 0, 6, .inl (wiF wf wn x)))]]) (by decide) rfl (by decide) (by decide) dX8_testFound_60 (by rw [tfC_y hyes, tfS_3 hj0])
      · have hj1 : ¬ ixB (z.1 2) (nI 2) = 0 := by first | exact h3 | exact (fun e => h3 e)
        obtain ⟨jj, hj, hzj⟩ := ixB_of (n := 2) (ixB_or.resolve_left hj1)
        refine V_aload_n hC dX8_testFound_47 0 rfl ?_
        refine V_get hC dX8_testFound_48 inAX8 (mem_at 2 0 rfl rfl) rfl 10 (by decide) q320 rfl (v := .ref (X 19)) rfl ?_
        refine V_aload_n hC dX8_testFound_51 1 rfl ?_
        refine V_get hC dX8_testFound_52 inAX3 (mem_at 3 0 rfl rfl) rfl 3 (by decide) q273 rfl (v := .int (z.1 2)) rfl ?_
        refine V_eqi (y := nI jj) (hzj) ?_
        refine V_aald hC dX8_testFound_55 6 rfl (mem_at 4 0 rfl rfl) (vp_in_nI (by omega) (by omega)) (x := jj) (nI_clamp (by omega)) (b := (Z jj) 0) (refA_at (by omega)) ?_
        refine V_sub [5, 0, 1, 2, 3, 4] (by decide) (u := [famW 2 (fun ι => slP G (Z ι) (sz ι)), [(X 20, .inr (8, [.ref (X 21), .int (nI (wiN wn)), .int ws]))], [(X 21, .inl (G.2.1 0, 6, .inl (wiF wf wn x)))], [(X 0, .inr (9, [.ref (X 1), .int (nI nb), .ref (X 2), .ref (X 6), .ref (X 8), .ref (X 10), .ref (X 14), .ref (X 18), .int (nI nl), .int du, .ref (X 19), .int mo, .ref (X 20), .int (cl + 1)]))], ltP G q z, [(X 19, .inl (G.2.1 6, 2, .inr (.inr (.inr (.inr (refA 2 Z))))))]]) rfl ?_
        refine V_open (i := jj) (hj) ?_
        refine V_iconst hC dX8_testFound_56 (v := 1) (by decide) ?_
        refine V_put hC dX8_testFound_57 inAX6 tyX6 tyX6_ok nmX6 0 0 rfl rfl rfl 2 (by decide) q302 rfl rfl (rfl) (rfl) (Nat.le_of_ble_eq_true rfl) (ps' := [slP G (Z jj) ((sz jj).1, 1, (sz jj).2.2), famX 2 jj (fun ι => slP G (Z ι) (sz ι)), [(X 20, .inr (8, [.ref (X 21), .int (nI (wiN wn)), .int ws]))], [(X 21, .inl (G.2.1 0, 6, .inl (wiF wf wn x)))], [(X 0, .inr (9, [.ref (X 1), .int (nI nb), .ref (X 2), .ref (X 6), .ref (X 8), .ref (X 10), .ref (X 14), .ref (X 18), .int (nI nl), .int du, .ref (X 19), .int mo, .ref (X 20), .int (cl + 1)]))], ltP G q z, [(X 19, .inl (G.2.1 6, 2, .inr (.inr (.inr (.inr (refA 2 Z))))))]]) rfl ?_
        refine V_psEq (ps' := [slP G (Z jj) ((sz jj).1, 1, (sz jj).2.2), famX 2 jj (fun ι => slP G (Z ι) (sz ι)), [(X 20, .inr (8, [.ref (X 21), .int (nI (wiN wn)), .int ws]))], [(X 21, .inl (G.2.1 0, 6, .inl (wiF wf wn x)))], [(X 0, .inr (9, [.ref (X 1), .int (nI nb), .ref (X 2), .ref (X 6), .ref (X 8), .ref (X 10), .ref (X 14), .ref (X 18), .int (nI nl), .int du, .ref (X 19), .int mo, .ref (X 20), .int (cl + 1)]))], ltP G q z, [(X 19, .inl (G.2.1 6, 2, .inr (.inr (.inr (.inr (refA 2 Z))))))]]) rfl ?_
        refine V_close (i := jj) (g' := fun ι => slP G (Z ι) ((va_up sz jj ((sz jj).1, 1, (sz jj).2.2)) ι)) (hj) (by simp [va_up]) (fun j _ hne => by simp [va_up, hne]) ?_
        exact V_vret hC hQ hr [3, 4, 5, 0, 1, 2] (u := [[(X 0, .inr (9, [.ref (X 1), .int (nI nb), .ref (X 2), .ref (X 6), .ref (X 8), .ref (X 10), .ref (X 14), .ref (X 18), .int (nI nl), .int du, .ref (X 19), .int mo, .ref (X 20), .int (cl + 1)]))], ltP G q z, [(X 19, .inl (G.2.1 6, 2, .inr (.inr (.inr (.inr (refA 2 Z))))))], famW 2 (fun ι => slP G (Z ι) ((va_up sz jj ((sz jj).1, 1, (sz jj).2.2)) ι)), [(X 20, .inr (8, [.ref (X 21), .int (nI (wiN wn)), .int ws]))], [(X 21, .inl (G.2.1 0, 6, .inl (wiF wf wn x)))]]) (by decide) rfl (by decide) (by decide) dX8_testFound_60 (by rw [tfC_y hyes, tfS_4 hyes hps hj hzj])
  · have hno : ¬ (wiHolds (wiF wf wn x) (wiN wn) ws) = 0 := by first | exact h1 | exact (fun e => h1 e)
    exact V_vret hC hQ hr [2, 3, 4, 5, 0, 1] (u := [[(X 0, .inr (9, [.ref (X 1), .int (nI nb), .ref (X 2), .ref (X 6), .ref (X 8), .ref (X 10), .ref (X 14), .ref (X 18), .int (nI nl), .int du, .ref (X 19), .int mo, .ref (X 20), .int cl]))], ltP G q z, [(X 19, .inl (G.2.1 6, 2, .inr (.inr (.inr (.inr (refA 2 Z))))))], famW 2 (fun ι => slP G (Z ι) (sz ι)), [(X 20, .inr (8, [.ref (X 21), .int (nI (wiN wn)), .int ws]))], [(X 21, .inl (G.2.1 0, 6, .inl (wiF wf wn x)))]]) (by decide) rfl (by decide) (by decide) dX8_testFound_18 (by rw [tfC_n hno, tfS_1 hno])
set_option maxHeartbeats 4000000 in
set_option maxRecDepth 100000 in
/-- ClinkerWorks.cube -/
theorem c_X8_cube (l : Launch) (hl0 : l.stackTraces = false) (G : VG) (X : Nat → Nat) (nb nl : Nat) (du mo cl : Int32) (T : Nat → Nat → Nat) (lz : Nat → LV) (Z : Nat → Nat → Nat) (sz : Nat → SV) (wn : Nat) (ws : Int32) (wf : Nat → Int32) (b x : Int32) (hnl : nl ≤ 12) (hwn : wn ≤ 6) : Xi l G yX8_cube cX8_cube 5 .int 7 104 3 18 [.ref (X 0), .int b, .int x] [[(X 0, .inr (9, [.ref (X 1), .int (nI nb), .ref (X 2), .ref (X 6), .ref (X 8), .ref (X 10), .ref (X 14), .ref (X 18), .int (nI nl), .int du, .ref (X 19), .int mo, .ref (X 20), .int cl]))], [(X 18, .inl (G.2.1 5, 12, .inr (.inr (.inr (.inr (refA 12 T))))))], famW 12 (fun ι => ltP G (T ι) (lz ι)), [(X 19, .inl (G.2.1 6, 2, .inr (.inr (.inr (.inr (refA 2 Z))))))], famW 2 (fun ι => slP G (Z ι) (sz ι)), [(X 20, .inr (8, [.ref (X 21), .int (nI wn), .int ws]))], [(X 21, .inl (G.2.1 0, 6, .inl wf))]] (fun r u => ∃ i w : Nat, i < nl ∧ b = nI i ∧ w ≤ 2 ∧ x = nI w ∧ ltGr ((lz i).1 2) = 1 ∧ ltGr ((lz i).2.1 w) = 0 ∧ r = ltStrength w (lz i) ∧ u = [[(X 0, .inr (9, [.ref (X 1), .int (nI nb), .ref (X 2), .ref (X 6), .ref (X 8), .ref (X 10), .ref (X 14), .ref (X 18), .int (nI nl), .int du, .ref (X 19), .int mo, .ref (X 20), .int (cbC lz wf wn ws i w cl)]))], [(X 18, .inl (G.2.1 5, 12, .inr (.inr (.inr (.inr (refA 12 T))))))], famW 12 (fun ι => ltP G (T ι) ((va_up lz i ((lz i).1, (upd (lz i).2.1 w (ltStrength w (lz i))), (lz i).2.2)) ι)), [(X 19, .inl (G.2.1 6, 2, .inr (.inr (.inr (.inr (refA 2 Z))))))], famW 2 (fun ι => slP G (Z ι) ((cbS lz wf wn ws sz i w) ι)), [(X 20, .inr (8, [.ref (X 21), .int (nI (cbN wn w)), .int ws]))], [(X 21, .inl (G.2.1 0, 6, .inl (cbW lz wf wn i w)))]]) (fun E => (eIX E ∧ ixB b (nI nl) = 0) ∨ (eIA E ∧ ixB b (nI nl) = 1 ∧ ¬ inR 0 2 x) ∨ (eIS E ∧ ixB b (nI nl) = 1 ∧ inR 0 2 x ∧ (ltGr ((lz b.toNatClampNeg).1 2) = 0 ∨ ¬ ltGr ((lz b.toNatClampNeg).2.1 x.toNatClampNeg) = 0))) := by
  refine Xi_of (by decide) (Nat.le_of_ble_eq_true rfl) (fun pP eE sS mM aA bB tT cC AA QQ hC hr hT hQ => ?_)
  refine V_iload_n hC dX8_cube_0 1 rfl ?_
  refine V_aload_n hC dX8_cube_1 0 rfl ?_
  refine V_get hC dX8_cube_2 inAX8 (mem_at 0 0 rfl rfl) rfl 8 (by decide) q318 rfl (v := .int (nI nl)) rfl ?_
  refine V_xcallS hC hT hQ [.int b, .int (nI nl)] (c_X8_needIndex l hl0 G b (nI nl)) dX8_cube_5 q480 q481 q43 q482 ⟨by decide, by decide, rfl⟩ ⟨by decide, by decide⟩ rfl (Nat.le_of_ble_eq_true rfl) ⟨by decide, by decide⟩ rfl (by decide) (by decide) [0, 1, 2, 3, 4, 5, 6] (by decide) rfl (fun E hE => Or.inl hE) ?_ (fun u hu => hu.2)
  rintro _ ⟨hk1, rfl⟩ -
  refine V_iload_n hC dX8_cube_8 2 rfl ?_
  refine V_iconst hC dX8_cube_9 (v := 0) (by decide) ?_
  refine V_iconst hC dX8_cube_10 (v := 2) (by decide) ?_
  refine V_xcallS hC hT hQ [.int x, .int 0, .int 2] (c_X8_needArgument l hl0 G x 0 2) dX8_cube_11 q390 q391 q43 q392 ⟨by decide, by decide, rfl⟩ ⟨by decide, by decide⟩ rfl (Nat.le_of_ble_eq_true rfl) ⟨by decide, by decide⟩ rfl (by decide) (by decide) [0, 1, 2, 3, 4, 5, 6] (by decide) rfl (fun E hE => Or.inr (Or.inl ⟨hE.1, hk1, hE.2⟩)) ?_ (fun u hu => hu.2)
  rintro _ ⟨hk2, rfl⟩ -
  have hk1b := hk1
  have hk2b := hk2
  obtain ⟨i, hi, rfl⟩ := ixB_of hk1
  obtain ⟨w, hw, rfl⟩ := inR_of (M := 2) hk2
  rcases (show w = 0 ∨ w = 1 ∨ w = 2 by omega) with rfl | rfl | rfl
  · refine V_aload_n hC dX8_cube_14 0 rfl ?_
    refine V_get hC dX8_cube_15 inAX8 (mem_at 0 0 rfl rfl) rfl 7 (by decide) q317 rfl (v := .ref (X 18)) rfl ?_
    refine V_iload_n hC dX8_cube_18 1 rfl ?_
    refine V_aald hC dX8_cube_19 5 rfl (mem_at 1 0 rfl rfl) (vp_in_nI (by omega) (by omega)) (x := i) (nI_clamp (by omega)) (b := (T i) 0) (refA_at (by omega)) ?_
    refine V_astore_n hC dX8_cube_20 (L' := [(3, .ref ((T i) 0)), (0, .ref (X 0)), (1, .int (nI i)), (2, .int (nI 0))]) (by decide) rfl ?_
    refine V_sub [2, 0, 1, 3, 4, 5, 6] (by decide) (u := [famW 12 (fun ι => ltP G (T ι) (lz ι)), [(X 0, .inr (9, [.ref (X 1), .int (nI nb), .ref (X 2), .ref (X 6), .ref (X 8), .ref (X 10), .ref (X 14), .ref (X 18), .int (nI nl), .int du, .ref (X 19), .int mo, .ref (X 20), .int cl]))], [(X 18, .inl (G.2.1 5, 12, .inr (.inr (.inr (.inr (refA 12 T))))))], [(X 19, .inl (G.2.1 6, 2, .inr (.inr (.inr (.inr (refA 2 Z))))))], famW 2 (fun ι => slP G (Z ι) (sz ι)), [(X 20, .inr (8, [.ref (X 21), .int (nI wn), .int ws]))], [(X 21, .inl (G.2.1 0, 6, .inl wf))]]) rfl ?_
    refine V_open (i := i) (by omega) ?_
    refine V_aload_n hC dX8_cube_21 0 rfl ?_
    refine V_calli hC (V_runV hC (rest := []) [] (k_X3_isGround l G (T i) (lz i)) [0] rfl (by decide) q814 q815 q816 q50 q817 ⟨by decide, by decide, rfl⟩ ⟨by decide, by decide⟩ (ci := 4) rfl (mem_at 0 0 rfl rfl) rfl (Nat.le_of_ble_eq_true rfl) ⟨by decide, by decide⟩ dX8_cube_22) (is := [0]) rfl [1, 2, 3, 4, 5, 6, 7] (rs := [famX 12 i (fun ι => ltP G (T ι) (lz ι)), [(X 0, .inr (9, [.ref (X 1), .int (nI nb), .ref (X 2), .ref (X 6), .ref (X 8), .ref (X 10), .ref (X 14), .ref (X 18), .int (nI nl), .int du, .ref (X 19), .int mo, .ref (X 20), .int cl]))], [(X 18, .inl (G.2.1 5, 12, .inr (.inr (.inr (.inr (refA 12 T))))))], [(X 19, .inl (G.2.1 6, 2, .inr (.inr (.inr (.inr (refA 2 Z))))))], famW 2 (fun ι => slP G (Z ι) (sz ι)), [(X 20, .inr (8, [.ref (X 21), .int (nI wn), .int ws]))], [(X 21, .inl (G.2.1 0, 6, .inl wf))]]) rfl (by decide) (by decide) ?_
    rintro _ _ ⟨rfl, rfl⟩
    refine V_if_eq hC dX8_cube_25 (tgt := 36) (by decide) (fun h3 => ?_) (fun h3 => ?_)
    · refine V_close (i := i) (g' := fun ι => ltP G (T ι) (lz ι)) (by omega) (rfl) (fun _ _ _ => rfl) ?_
      exact V_throwS hC hT hl0 hQ (cls := "java/lang/IllegalStateException") (text := "the LOT was not ground, or its CUBE was BROKEN") (by decide +kernel) q576 q62 (by decide +kernel) excW_is (by decide +kernel) dX8_cube_36 dX8_cube_39 dX8_cube_40 dX8_cube_42 dX8_cube_45 (by decide) (Nat.le_of_ble_eq_true rfl) (by decide) (by decide) (by decide) (by decide) [1, 2, 0, 3, 4, 5, 6] (by decide) rfl (Or.inr (Or.inr ⟨rfl, hk1b, hk2b, by rw [nI_clamp (by omega)]; exact Or.inl h3⟩))
    · refine V_aload_n hC dX8_cube_28 0 rfl ?_
      refine V_iload_n hC dX8_cube_29 3 rfl ?_
      refine V_calli hC (V_runV hC (rest := []) [.int (nI 0)] (k_X3_isFound l G (T i) (lz i) (nI 0) 0 (by decide) rfl) [0] rfl (by decide) q567 q568 q569 q50 q570 ⟨by decide, by decide, rfl⟩ ⟨by decide, by decide⟩ (ci := 4) rfl (mem_at 0 0 rfl rfl) rfl (Nat.le_of_ble_eq_true rfl) ⟨by decide, by decide⟩ dX8_cube_30) (is := [0]) rfl [1, 2, 3, 4, 5, 6, 7] (rs := [famX 12 i (fun ι => ltP G (T ι) (lz ι)), [(X 0, .inr (9, [.ref (X 1), .int (nI nb), .ref (X 2), .ref (X 6), .ref (X 8), .ref (X 10), .ref (X 14), .ref (X 18), .int (nI nl), .int du, .ref (X 19), .int mo, .ref (X 20), .int cl]))], [(X 18, .inl (G.2.1 5, 12, .inr (.inr (.inr (.inr (refA 12 T))))))], [(X 19, .inl (G.2.1 6, 2, .inr (.inr (.inr (.inr (refA 2 Z))))))], famW 2 (fun ι => slP G (Z ι) (sz ι)), [(X 20, .inr (8, [.ref (X 21), .int (nI wn), .int ws]))], [(X 21, .inl (G.2.1 0, 6, .inl wf))]]) rfl (by decide) (by decide) ?_
      rintro _ _ ⟨rfl, rfl⟩
      refine V_if_eq hC dX8_cube_33 (tgt := 46) (by decide) (fun h4 => ?_) (fun h4 => ?_)
      · refine V_aload_n hC dX8_cube_46 0 rfl ?_
        refine V_iload_n hC dX8_cube_47 3 rfl ?_
        refine V_calli hC (V_runV hC (rest := []) [.int (nI 0)] (k_X3_strength l G (T i) (lz i) (nI 0) 0 (by decide) rfl) [0] rfl (by decide) q867 q868 q869 q50 q870 ⟨by decide, by decide, rfl⟩ ⟨by decide, by decide⟩ (ci := 4) rfl (mem_at 0 0 rfl rfl) rfl (Nat.le_of_ble_eq_true rfl) ⟨by decide, by decide⟩ dX8_cube_48) (is := [0]) rfl [1, 2, 3, 4, 5, 6, 7] (rs := [famX 12 i (fun ι => ltP G (T ι) (lz ι)), [(X 0, .inr (9, [.ref (X 1), .int (nI nb), .ref (X 2), .ref (X 6), .ref (X 8), .ref (X 10), .ref (X 14), .ref (X 18), .int (nI nl), .int du, .ref (X 19), .int mo, .ref (X 20), .int cl]))], [(X 18, .inl (G.2.1 5, 12, .inr (.inr (.inr (.inr (refA 12 T))))))], [(X 19, .inl (G.2.1 6, 2, .inr (.inr (.inr (.inr (refA 2 Z))))))], famW 2 (fun ι => slP G (Z ι) (sz ι)), [(X 20, .inr (8, [.ref (X 21), .int (nI wn), .int ws]))], [(X 21, .inl (G.2.1 0, 6, .inl wf))]]) rfl (by decide) (by decide) ?_
        rintro _ _ ⟨rfl, rfl⟩
        refine V_istore hC dX8_cube_51 (L' := [(4, .int (ltStrength 0 (lz i))), (3, .ref ((T i) 0)), (0, .ref (X 0)), (1, .int (nI i)), (2, .int (nI 0))]) (by decide) rfl ?_
        refine V_aload_n hC dX8_cube_53 1 rfl ?_
        refine V_get hC dX8_cube_54 inAX3 (mem_at 0 0 rfl rfl) rfl 6 (by decide) q278 rfl (v := .ref ((T i) 1)) rfl ?_
        refine V_iload_n hC dX8_cube_57 4 rfl ?_
        refine V_iload hC dX8_cube_58 0 rfl ?_
        refine V_iast hC dX8_cube_60 0 1 rfl rfl (vin (by decide)) (z := 0) (by decide) (ps' := [ltP G (T i) (hv5 (((lz i).1) 0) (((lz i).1) 1) (((lz i).1) 2) (((lz i).1) 3) (((lz i).1) 4), upd ((lz i).2.1) 0 (ltStrength 0 (lz i)), (lz i).2.2), famX 12 i (fun ι => ltP G (T ι) (lz ι)), [(X 0, .inr (9, [.ref (X 1), .int (nI nb), .ref (X 2), .ref (X 6), .ref (X 8), .ref (X 10), .ref (X 14), .ref (X 18), .int (nI nl), .int du, .ref (X 19), .int mo, .ref (X 20), .int cl]))], [(X 18, .inl (G.2.1 5, 12, .inr (.inr (.inr (.inr (refA 12 T))))))], [(X 19, .inl (G.2.1 6, 2, .inr (.inr (.inr (.inr (refA 2 Z))))))], famW 2 (fun ι => slP G (Z ι) (sz ι)), [(X 20, .inr (8, [.ref (X 21), .int (nI wn), .int ws]))], [(X 21, .inl (G.2.1 0, 6, .inl wf))]]) rfl ?_
        refine V_iload_n hC dX8_cube_61 4 rfl ?_
        refine V_iconst hC dX8_cube_62 (v := 2) (by decide) ?_
        refine V_icmp_neT hC dX8_cube_63 (tgt := 73) (by decide) (by decide) ?_
        refine V_psEq (ps' := [ltP G (T i) ((lz i).1, (upd (lz i).2.1 0 (ltStrength 0 (lz i))), (lz i).2.2), famX 12 i (fun ι => ltP G (T ι) (lz ι)), [(X 0, .inr (9, [.ref (X 1), .int (nI nb), .ref (X 2), .ref (X 6), .ref (X 8), .ref (X 10), .ref (X 14), .ref (X 18), .int (nI nl), .int du, .ref (X 19), .int mo, .ref (X 20), .int cl]))], [(X 18, .inl (G.2.1 5, 12, .inr (.inr (.inr (.inr (refA 12 T))))))], [(X 19, .inl (G.2.1 6, 2, .inr (.inr (.inr (.inr (refA 2 Z))))))], famW 2 (fun ι => slP G (Z ι) (sz ι)), [(X 20, .inr (8, [.ref (X 21), .int (nI wn), .int ws]))], [(X 21, .inl (G.2.1 0, 6, .inl wf))]]) rfl ?_
        refine V_close (i := i) (g' := fun ι => ltP G (T ι) (((va_up lz i ((lz i).1, (upd (lz i).2.1 0 (ltStrength 0 (lz i))), (lz i).2.2))) ι)) (by omega) (by simp [va_up]) (fun j _ hne => by simp [va_up, hne]) ?_
        refine V_iload hC dX8_cube_73 0 rfl ?_
        exact V_xiret hC hQ hr [1, 2, 0, 3, 4, 5, 6] (u := [[(X 0, .inr (9, [.ref (X 1), .int (nI nb), .ref (X 2), .ref (X 6), .ref (X 8), .ref (X 10), .ref (X 14), .ref (X 18), .int (nI nl), .int du, .ref (X 19), .int mo, .ref (X 20), .int cl]))], [(X 18, .inl (G.2.1 5, 12, .inr (.inr (.inr (.inr (refA 12 T))))))], famW 12 (fun ι => ltP G (T ι) (((va_up lz i ((lz i).1, (upd (lz i).2.1 0 (ltStrength 0 (lz i))), (lz i).2.2))) ι)), [(X 19, .inl (G.2.1 6, 2, .inr (.inr (.inr (.inr (refA 2 Z))))))], famW 2 (fun ι => slP G (Z ι) (sz ι)), [(X 20, .inr (8, [.ref (X 21), .int (nI wn), .int ws]))], [(X 21, .inl (G.2.1 0, 6, .inl wf))]]) (by decide) rfl (by decide) (by decide) dX8_cube_75 (⟨i, 0, hi, rfl, by decide, rfl, ltGr_1 h3, h4, rfl, rfl⟩)
      · refine V_close (i := i) (g' := fun ι => ltP G (T ι) (lz ι)) (by omega) (rfl) (fun _ _ _ => rfl) ?_
        exact V_throwS hC hT hl0 hQ (cls := "java/lang/IllegalStateException") (text := "the LOT was not ground, or its CUBE was BROKEN") (by decide +kernel) q576 q62 (by decide +kernel) excW_is (by decide +kernel) dX8_cube_36 dX8_cube_39 dX8_cube_40 dX8_cube_42 dX8_cube_45 (by decide) (Nat.le_of_ble_eq_true rfl) (by decide) (by decide) (by decide) (by decide) [1, 2, 0, 3, 4, 5, 6] (by decide) rfl (Or.inr (Or.inr ⟨rfl, hk1b, hk2b, by rw [nI_clamp (by omega)]; exact Or.inr h4⟩))
  · refine V_aload_n hC dX8_cube_14 0 rfl ?_
    refine V_get hC dX8_cube_15 inAX8 (mem_at 0 0 rfl rfl) rfl 7 (by decide) q317 rfl (v := .ref (X 18)) rfl ?_
    refine V_iload_n hC dX8_cube_18 1 rfl ?_
    refine V_aald hC dX8_cube_19 5 rfl (mem_at 1 0 rfl rfl) (vp_in_nI (by omega) (by omega)) (x := i) (nI_clamp (by omega)) (b := (T i) 0) (refA_at (by omega)) ?_
    refine V_astore_n hC dX8_cube_20 (L' := [(3, .ref ((T i) 0)), (0, .ref (X 0)), (1, .int (nI i)), (2, .int (nI 1))]) (by decide) rfl ?_
    refine V_sub [2, 0, 1, 3, 4, 5, 6] (by decide) (u := [famW 12 (fun ι => ltP G (T ι) (lz ι)), [(X 0, .inr (9, [.ref (X 1), .int (nI nb), .ref (X 2), .ref (X 6), .ref (X 8), .ref (X 10), .ref (X 14), .ref (X 18), .int (nI nl), .int du, .ref (X 19), .int mo, .ref (X 20), .int cl]))], [(X 18, .inl (G.2.1 5, 12, .inr (.inr (.inr (.inr (refA 12 T))))))], [(X 19, .inl (G.2.1 6, 2, .inr (.inr (.inr (.inr (refA 2 Z))))))], famW 2 (fun ι => slP G (Z ι) (sz ι)), [(X 20, .inr (8, [.ref (X 21), .int (nI wn), .int ws]))], [(X 21, .inl (G.2.1 0, 6, .inl wf))]]) rfl ?_
    refine V_open (i := i) (by omega) ?_
    refine V_aload_n hC dX8_cube_21 0 rfl ?_
    refine V_calli hC (V_runV hC (rest := []) [] (k_X3_isGround l G (T i) (lz i)) [0] rfl (by decide) q814 q815 q816 q50 q817 ⟨by decide, by decide, rfl⟩ ⟨by decide, by decide⟩ (ci := 4) rfl (mem_at 0 0 rfl rfl) rfl (Nat.le_of_ble_eq_true rfl) ⟨by decide, by decide⟩ dX8_cube_22) (is := [0]) rfl [1, 2, 3, 4, 5, 6, 7] (rs := [famX 12 i (fun ι => ltP G (T ι) (lz ι)), [(X 0, .inr (9, [.ref (X 1), .int (nI nb), .ref (X 2), .ref (X 6), .ref (X 8), .ref (X 10), .ref (X 14), .ref (X 18), .int (nI nl), .int du, .ref (X 19), .int mo, .ref (X 20), .int cl]))], [(X 18, .inl (G.2.1 5, 12, .inr (.inr (.inr (.inr (refA 12 T))))))], [(X 19, .inl (G.2.1 6, 2, .inr (.inr (.inr (.inr (refA 2 Z))))))], famW 2 (fun ι => slP G (Z ι) (sz ι)), [(X 20, .inr (8, [.ref (X 21), .int (nI wn), .int ws]))], [(X 21, .inl (G.2.1 0, 6, .inl wf))]]) rfl (by decide) (by decide) ?_
    rintro _ _ ⟨rfl, rfl⟩
    refine V_if_eq hC dX8_cube_25 (tgt := 36) (by decide) (fun h5 => ?_) (fun h5 => ?_)
    · refine V_close (i := i) (g' := fun ι => ltP G (T ι) (lz ι)) (by omega) (rfl) (fun _ _ _ => rfl) ?_
      exact V_throwS hC hT hl0 hQ (cls := "java/lang/IllegalStateException") (text := "the LOT was not ground, or its CUBE was BROKEN") (by decide +kernel) q576 q62 (by decide +kernel) excW_is (by decide +kernel) dX8_cube_36 dX8_cube_39 dX8_cube_40 dX8_cube_42 dX8_cube_45 (by decide) (Nat.le_of_ble_eq_true rfl) (by decide) (by decide) (by decide) (by decide) [1, 2, 0, 3, 4, 5, 6] (by decide) rfl (Or.inr (Or.inr ⟨rfl, hk1b, hk2b, by rw [nI_clamp (by omega)]; exact Or.inl h5⟩))
    · refine V_aload_n hC dX8_cube_28 0 rfl ?_
      refine V_iload_n hC dX8_cube_29 3 rfl ?_
      refine V_calli hC (V_runV hC (rest := []) [.int (nI 1)] (k_X3_isFound l G (T i) (lz i) (nI 1) 1 (by decide) rfl) [0] rfl (by decide) q567 q568 q569 q50 q570 ⟨by decide, by decide, rfl⟩ ⟨by decide, by decide⟩ (ci := 4) rfl (mem_at 0 0 rfl rfl) rfl (Nat.le_of_ble_eq_true rfl) ⟨by decide, by decide⟩ dX8_cube_30) (is := [0]) rfl [1, 2, 3, 4, 5, 6, 7] (rs := [famX 12 i (fun ι => ltP G (T ι) (lz ι)), [(X 0, .inr (9, [.ref (X 1), .int (nI nb), .ref (X 2), .ref (X 6), .ref (X 8), .ref (X 10), .ref (X 14), .ref (X 18), .int (nI nl), .int du, .ref (X 19), .int mo, .ref (X 20), .int cl]))], [(X 18, .inl (G.2.1 5, 12, .inr (.inr (.inr (.inr (refA 12 T))))))], [(X 19, .inl (G.2.1 6, 2, .inr (.inr (.inr (.inr (refA 2 Z))))))], famW 2 (fun ι => slP G (Z ι) (sz ι)), [(X 20, .inr (8, [.ref (X 21), .int (nI wn), .int ws]))], [(X 21, .inl (G.2.1 0, 6, .inl wf))]]) rfl (by decide) (by decide) ?_
      rintro _ _ ⟨rfl, rfl⟩
      refine V_if_eq hC dX8_cube_33 (tgt := 46) (by decide) (fun h6 => ?_) (fun h6 => ?_)
      · refine V_aload_n hC dX8_cube_46 0 rfl ?_
        refine V_iload_n hC dX8_cube_47 3 rfl ?_
        refine V_calli hC (V_runV hC (rest := []) [.int (nI 1)] (k_X3_strength l G (T i) (lz i) (nI 1) 1 (by decide) rfl) [0] rfl (by decide) q867 q868 q869 q50 q870 ⟨by decide, by decide, rfl⟩ ⟨by decide, by decide⟩ (ci := 4) rfl (mem_at 0 0 rfl rfl) rfl (Nat.le_of_ble_eq_true rfl) ⟨by decide, by decide⟩ dX8_cube_48) (is := [0]) rfl [1, 2, 3, 4, 5, 6, 7] (rs := [famX 12 i (fun ι => ltP G (T ι) (lz ι)), [(X 0, .inr (9, [.ref (X 1), .int (nI nb), .ref (X 2), .ref (X 6), .ref (X 8), .ref (X 10), .ref (X 14), .ref (X 18), .int (nI nl), .int du, .ref (X 19), .int mo, .ref (X 20), .int cl]))], [(X 18, .inl (G.2.1 5, 12, .inr (.inr (.inr (.inr (refA 12 T))))))], [(X 19, .inl (G.2.1 6, 2, .inr (.inr (.inr (.inr (refA 2 Z))))))], famW 2 (fun ι => slP G (Z ι) (sz ι)), [(X 20, .inr (8, [.ref (X 21), .int (nI wn), .int ws]))], [(X 21, .inl (G.2.1 0, 6, .inl wf))]]) rfl (by decide) (by decide) ?_
        rintro _ _ ⟨rfl, rfl⟩
        refine V_istore hC dX8_cube_51 (L' := [(4, .int (ltStrength 1 (lz i))), (3, .ref ((T i) 0)), (0, .ref (X 0)), (1, .int (nI i)), (2, .int (nI 1))]) (by decide) rfl ?_
        refine V_aload_n hC dX8_cube_53 1 rfl ?_
        refine V_get hC dX8_cube_54 inAX3 (mem_at 0 0 rfl rfl) rfl 6 (by decide) q278 rfl (v := .ref ((T i) 1)) rfl ?_
        refine V_iload_n hC dX8_cube_57 4 rfl ?_
        refine V_iload hC dX8_cube_58 0 rfl ?_
        refine V_iast hC dX8_cube_60 0 1 rfl rfl (vin (by decide)) (z := 1) (by decide) (ps' := [ltP G (T i) (hv5 (((lz i).1) 0) (((lz i).1) 1) (((lz i).1) 2) (((lz i).1) 3) (((lz i).1) 4), upd ((lz i).2.1) 1 (ltStrength 1 (lz i)), (lz i).2.2), famX 12 i (fun ι => ltP G (T ι) (lz ι)), [(X 0, .inr (9, [.ref (X 1), .int (nI nb), .ref (X 2), .ref (X 6), .ref (X 8), .ref (X 10), .ref (X 14), .ref (X 18), .int (nI nl), .int du, .ref (X 19), .int mo, .ref (X 20), .int cl]))], [(X 18, .inl (G.2.1 5, 12, .inr (.inr (.inr (.inr (refA 12 T))))))], [(X 19, .inl (G.2.1 6, 2, .inr (.inr (.inr (.inr (refA 2 Z))))))], famW 2 (fun ι => slP G (Z ι) (sz ι)), [(X 20, .inr (8, [.ref (X 21), .int (nI wn), .int ws]))], [(X 21, .inl (G.2.1 0, 6, .inl wf))]]) rfl ?_
        refine V_iload_n hC dX8_cube_61 4 rfl ?_
        refine V_iconst hC dX8_cube_62 (v := 2) (by decide) ?_
        refine V_icmp_neT hC dX8_cube_63 (tgt := 73) (by decide) (by decide) ?_
        refine V_psEq (ps' := [ltP G (T i) ((lz i).1, (upd (lz i).2.1 1 (ltStrength 1 (lz i))), (lz i).2.2), famX 12 i (fun ι => ltP G (T ι) (lz ι)), [(X 0, .inr (9, [.ref (X 1), .int (nI nb), .ref (X 2), .ref (X 6), .ref (X 8), .ref (X 10), .ref (X 14), .ref (X 18), .int (nI nl), .int du, .ref (X 19), .int mo, .ref (X 20), .int cl]))], [(X 18, .inl (G.2.1 5, 12, .inr (.inr (.inr (.inr (refA 12 T))))))], [(X 19, .inl (G.2.1 6, 2, .inr (.inr (.inr (.inr (refA 2 Z))))))], famW 2 (fun ι => slP G (Z ι) (sz ι)), [(X 20, .inr (8, [.ref (X 21), .int (nI wn), .int ws]))], [(X 21, .inl (G.2.1 0, 6, .inl wf))]]) rfl ?_
        refine V_close (i := i) (g' := fun ι => ltP G (T ι) (((va_up lz i ((lz i).1, (upd (lz i).2.1 1 (ltStrength 1 (lz i))), (lz i).2.2))) ι)) (by omega) (by simp [va_up]) (fun j _ hne => by simp [va_up, hne]) ?_
        refine V_iload hC dX8_cube_73 0 rfl ?_
        exact V_xiret hC hQ hr [1, 2, 0, 3, 4, 5, 6] (u := [[(X 0, .inr (9, [.ref (X 1), .int (nI nb), .ref (X 2), .ref (X 6), .ref (X 8), .ref (X 10), .ref (X 14), .ref (X 18), .int (nI nl), .int du, .ref (X 19), .int mo, .ref (X 20), .int cl]))], [(X 18, .inl (G.2.1 5, 12, .inr (.inr (.inr (.inr (refA 12 T))))))], famW 12 (fun ι => ltP G (T ι) (((va_up lz i ((lz i).1, (upd (lz i).2.1 1 (ltStrength 1 (lz i))), (lz i).2.2))) ι)), [(X 19, .inl (G.2.1 6, 2, .inr (.inr (.inr (.inr (refA 2 Z))))))], famW 2 (fun ι => slP G (Z ι) (sz ι)), [(X 20, .inr (8, [.ref (X 21), .int (nI wn), .int ws]))], [(X 21, .inl (G.2.1 0, 6, .inl wf))]]) (by decide) rfl (by decide) (by decide) dX8_cube_75 (⟨i, 1, hi, rfl, by decide, rfl, ltGr_1 h5, h6, rfl, rfl⟩)
      · refine V_close (i := i) (g' := fun ι => ltP G (T ι) (lz ι)) (by omega) (rfl) (fun _ _ _ => rfl) ?_
        exact V_throwS hC hT hl0 hQ (cls := "java/lang/IllegalStateException") (text := "the LOT was not ground, or its CUBE was BROKEN") (by decide +kernel) q576 q62 (by decide +kernel) excW_is (by decide +kernel) dX8_cube_36 dX8_cube_39 dX8_cube_40 dX8_cube_42 dX8_cube_45 (by decide) (Nat.le_of_ble_eq_true rfl) (by decide) (by decide) (by decide) (by decide) [1, 2, 0, 3, 4, 5, 6] (by decide) rfl (Or.inr (Or.inr ⟨rfl, hk1b, hk2b, by rw [nI_clamp (by omega)]; exact Or.inr h6⟩))
  · refine V_aload_n hC dX8_cube_14 0 rfl ?_
    refine V_get hC dX8_cube_15 inAX8 (mem_at 0 0 rfl rfl) rfl 7 (by decide) q317 rfl (v := .ref (X 18)) rfl ?_
    refine V_iload_n hC dX8_cube_18 1 rfl ?_
    refine V_aald hC dX8_cube_19 5 rfl (mem_at 1 0 rfl rfl) (vp_in_nI (by omega) (by omega)) (x := i) (nI_clamp (by omega)) (b := (T i) 0) (refA_at (by omega)) ?_
    refine V_astore_n hC dX8_cube_20 (L' := [(3, .ref ((T i) 0)), (0, .ref (X 0)), (1, .int (nI i)), (2, .int (nI 2))]) (by decide) rfl ?_
    refine V_sub [2, 0, 1, 3, 4, 5, 6] (by decide) (u := [famW 12 (fun ι => ltP G (T ι) (lz ι)), [(X 0, .inr (9, [.ref (X 1), .int (nI nb), .ref (X 2), .ref (X 6), .ref (X 8), .ref (X 10), .ref (X 14), .ref (X 18), .int (nI nl), .int du, .ref (X 19), .int mo, .ref (X 20), .int cl]))], [(X 18, .inl (G.2.1 5, 12, .inr (.inr (.inr (.inr (refA 12 T))))))], [(X 19, .inl (G.2.1 6, 2, .inr (.inr (.inr (.inr (refA 2 Z))))))], famW 2 (fun ι => slP G (Z ι) (sz ι)), [(X 20, .inr (8, [.ref (X 21), .int (nI wn), .int ws]))], [(X 21, .inl (G.2.1 0, 6, .inl wf))]]) rfl ?_
    refine V_open (i := i) (by omega) ?_
    refine V_aload_n hC dX8_cube_21 0 rfl ?_
    refine V_calli hC (V_runV hC (rest := []) [] (k_X3_isGround l G (T i) (lz i)) [0] rfl (by decide) q814 q815 q816 q50 q817 ⟨by decide, by decide, rfl⟩ ⟨by decide, by decide⟩ (ci := 4) rfl (mem_at 0 0 rfl rfl) rfl (Nat.le_of_ble_eq_true rfl) ⟨by decide, by decide⟩ dX8_cube_22) (is := [0]) rfl [1, 2, 3, 4, 5, 6, 7] (rs := [famX 12 i (fun ι => ltP G (T ι) (lz ι)), [(X 0, .inr (9, [.ref (X 1), .int (nI nb), .ref (X 2), .ref (X 6), .ref (X 8), .ref (X 10), .ref (X 14), .ref (X 18), .int (nI nl), .int du, .ref (X 19), .int mo, .ref (X 20), .int cl]))], [(X 18, .inl (G.2.1 5, 12, .inr (.inr (.inr (.inr (refA 12 T))))))], [(X 19, .inl (G.2.1 6, 2, .inr (.inr (.inr (.inr (refA 2 Z))))))], famW 2 (fun ι => slP G (Z ι) (sz ι)), [(X 20, .inr (8, [.ref (X 21), .int (nI wn), .int ws]))], [(X 21, .inl (G.2.1 0, 6, .inl wf))]]) rfl (by decide) (by decide) ?_
    rintro _ _ ⟨rfl, rfl⟩
    refine V_if_eq hC dX8_cube_25 (tgt := 36) (by decide) (fun h7 => ?_) (fun h7 => ?_)
    · refine V_close (i := i) (g' := fun ι => ltP G (T ι) (lz ι)) (by omega) (rfl) (fun _ _ _ => rfl) ?_
      exact V_throwS hC hT hl0 hQ (cls := "java/lang/IllegalStateException") (text := "the LOT was not ground, or its CUBE was BROKEN") (by decide +kernel) q576 q62 (by decide +kernel) excW_is (by decide +kernel) dX8_cube_36 dX8_cube_39 dX8_cube_40 dX8_cube_42 dX8_cube_45 (by decide) (Nat.le_of_ble_eq_true rfl) (by decide) (by decide) (by decide) (by decide) [1, 2, 0, 3, 4, 5, 6] (by decide) rfl (Or.inr (Or.inr ⟨rfl, hk1b, hk2b, by rw [nI_clamp (by omega)]; exact Or.inl h7⟩))
    · refine V_aload_n hC dX8_cube_28 0 rfl ?_
      refine V_iload_n hC dX8_cube_29 3 rfl ?_
      refine V_calli hC (V_runV hC (rest := []) [.int (nI 2)] (k_X3_isFound l G (T i) (lz i) (nI 2) 2 (by decide) rfl) [0] rfl (by decide) q567 q568 q569 q50 q570 ⟨by decide, by decide, rfl⟩ ⟨by decide, by decide⟩ (ci := 4) rfl (mem_at 0 0 rfl rfl) rfl (Nat.le_of_ble_eq_true rfl) ⟨by decide, by decide⟩ dX8_cube_30) (is := [0]) rfl [1, 2, 3, 4, 5, 6, 7] (rs := [famX 12 i (fun ι => ltP G (T ι) (lz ι)), [(X 0, .inr (9, [.ref (X 1), .int (nI nb), .ref (X 2), .ref (X 6), .ref (X 8), .ref (X 10), .ref (X 14), .ref (X 18), .int (nI nl), .int du, .ref (X 19), .int mo, .ref (X 20), .int cl]))], [(X 18, .inl (G.2.1 5, 12, .inr (.inr (.inr (.inr (refA 12 T))))))], [(X 19, .inl (G.2.1 6, 2, .inr (.inr (.inr (.inr (refA 2 Z))))))], famW 2 (fun ι => slP G (Z ι) (sz ι)), [(X 20, .inr (8, [.ref (X 21), .int (nI wn), .int ws]))], [(X 21, .inl (G.2.1 0, 6, .inl wf))]]) rfl (by decide) (by decide) ?_
      rintro _ _ ⟨rfl, rfl⟩
      refine V_if_eq hC dX8_cube_33 (tgt := 46) (by decide) (fun h8 => ?_) (fun h8 => ?_)
      · refine V_aload_n hC dX8_cube_46 0 rfl ?_
        refine V_iload_n hC dX8_cube_47 3 rfl ?_
        refine V_calli hC (V_runV hC (rest := []) [.int (nI 2)] (k_X3_strength l G (T i) (lz i) (nI 2) 2 (by decide) rfl) [0] rfl (by decide) q867 q868 q869 q50 q870 ⟨by decide, by decide, rfl⟩ ⟨by decide, by decide⟩ (ci := 4) rfl (mem_at 0 0 rfl rfl) rfl (Nat.le_of_ble_eq_true rfl) ⟨by decide, by decide⟩ dX8_cube_48) (is := [0]) rfl [1, 2, 3, 4, 5, 6, 7] (rs := [famX 12 i (fun ι => ltP G (T ι) (lz ι)), [(X 0, .inr (9, [.ref (X 1), .int (nI nb), .ref (X 2), .ref (X 6), .ref (X 8), .ref (X 10), .ref (X 14), .ref (X 18), .int (nI nl), .int du, .ref (X 19), .int mo, .ref (X 20), .int cl]))], [(X 18, .inl (G.2.1 5, 12, .inr (.inr (.inr (.inr (refA 12 T))))))], [(X 19, .inl (G.2.1 6, 2, .inr (.inr (.inr (.inr (refA 2 Z))))))], famW 2 (fun ι => slP G (Z ι) (sz ι)), [(X 20, .inr (8, [.ref (X 21), .int (nI wn), .int ws]))], [(X 21, .inl (G.2.1 0, 6, .inl wf))]]) rfl (by decide) (by decide) ?_
        rintro _ _ ⟨rfl, rfl⟩
        refine V_istore hC dX8_cube_51 (L' := [(4, .int (ltStrength 2 (lz i))), (3, .ref ((T i) 0)), (0, .ref (X 0)), (1, .int (nI i)), (2, .int (nI 2))]) (by decide) rfl ?_
        refine V_aload_n hC dX8_cube_53 1 rfl ?_
        refine V_get hC dX8_cube_54 inAX3 (mem_at 0 0 rfl rfl) rfl 6 (by decide) q278 rfl (v := .ref ((T i) 1)) rfl ?_
        refine V_iload_n hC dX8_cube_57 4 rfl ?_
        refine V_iload hC dX8_cube_58 0 rfl ?_
        refine V_iast hC dX8_cube_60 0 1 rfl rfl (vin (by decide)) (z := 2) (by decide) (ps' := [ltP G (T i) (hv5 (((lz i).1) 0) (((lz i).1) 1) (((lz i).1) 2) (((lz i).1) 3) (((lz i).1) 4), upd ((lz i).2.1) 2 (ltStrength 2 (lz i)), (lz i).2.2), famX 12 i (fun ι => ltP G (T ι) (lz ι)), [(X 0, .inr (9, [.ref (X 1), .int (nI nb), .ref (X 2), .ref (X 6), .ref (X 8), .ref (X 10), .ref (X 14), .ref (X 18), .int (nI nl), .int du, .ref (X 19), .int mo, .ref (X 20), .int cl]))], [(X 18, .inl (G.2.1 5, 12, .inr (.inr (.inr (.inr (refA 12 T))))))], [(X 19, .inl (G.2.1 6, 2, .inr (.inr (.inr (.inr (refA 2 Z))))))], famW 2 (fun ι => slP G (Z ι) (sz ι)), [(X 20, .inr (8, [.ref (X 21), .int (nI wn), .int ws]))], [(X 21, .inl (G.2.1 0, 6, .inl wf))]]) rfl ?_
        refine V_iload_n hC dX8_cube_61 4 rfl ?_
        refine V_iconst hC dX8_cube_62 (v := 2) (by decide) ?_
        refine V_icmp_neF hC dX8_cube_63 (tgt := 73) (by decide) (by decide) ?_
        refine V_aload_n hC dX8_cube_66 2 rfl ?_
        refine V_aload_n hC dX8_cube_67 1 rfl ?_
        refine V_iload hC dX8_cube_68 0 rfl ?_
        refine V_callv hC (V_runV hC (rest := []) [.ref ((T i) 0), .int (ltStrength 2 (lz i))] (c_X8_testFound l G X nb nl du mo cl Z sz wn ws wf (T i) (hv5 (((lz i).1) 0) (((lz i).1) 1) (((lz i).1) 2) (((lz i).1) 3) (((lz i).1) 4), upd ((lz i).2.1) 2 (ltStrength 2 (lz i)), (lz i).2.2) (ltStrength 2 (lz i)) hwn) [2, 0, 4, 5, 6, 7] rfl (by decide) q880 q882 q19 q43 q883 ⟨by decide, by decide, rfl⟩ ⟨by decide, by decide⟩ (ci := 9) rfl (mem_at 2 0 rfl rfl) rfl (Nat.le_of_ble_eq_true rfl) ⟨by decide, by decide⟩ dX8_cube_70) (is := [2, 0, 4, 5, 6, 7]) rfl [1, 3] (rs := [famX 12 i (fun ι => ltP G (T ι) (lz ι)), [(X 18, .inl (G.2.1 5, 12, .inr (.inr (.inr (.inr (refA 12 T))))))]]) rfl (by decide) (by decide) ?_
        rintro _ rfl
        refine V_psEq (ps' := [[(X 0, .inr (9, [.ref (X 1), .int (nI nb), .ref (X 2), .ref (X 6), .ref (X 8), .ref (X 10), .ref (X 14), .ref (X 18), .int (nI nl), .int du, .ref (X 19), .int mo, .ref (X 20), .int (tfC (wiHolds (wiF wf wn (ltStrength 2 (lz i))) (wiN wn) ws) cl)]))], ltP G (T i) ((lz i).1, (upd (lz i).2.1 2 (ltStrength 2 (lz i))), (lz i).2.2), [(X 19, .inl (G.2.1 6, 2, .inr (.inr (.inr (.inr (refA 2 Z))))))], famW 2 (fun ι => slP G (Z ι) ((tfS (wiHolds (wiF wf wn (ltStrength 2 (lz i))) (wiN wn) ws) (hv5 (((lz i).1) 0) (((lz i).1) 1) (((lz i).1) 2) (((lz i).1) 3) (((lz i).1) 4), upd ((lz i).2.1) 2 (ltStrength 2 (lz i)), (lz i).2.2) sz) ι)), [(X 20, .inr (8, [.ref (X 21), .int (nI (wiN wn)), .int ws]))], [(X 21, .inl (G.2.1 0, 6, .inl (wiF wf wn (ltStrength 2 (lz i)))))], famX 12 i (fun ι => ltP G (T ι) (lz ι)), [(X 18, .inl (G.2.1 5, 12, .inr (.inr (.inr (.inr (refA 12 T))))))]]) rfl ?_
        refine V_sub [1, 6, 0, 2, 3, 4, 5, 7] (by decide) (u := [ltP G (T i) ((lz i).1, (upd (lz i).2.1 2 (ltStrength 2 (lz i))), (lz i).2.2), famX 12 i (fun ι => ltP G (T ι) (lz ι)), [(X 0, .inr (9, [.ref (X 1), .int (nI nb), .ref (X 2), .ref (X 6), .ref (X 8), .ref (X 10), .ref (X 14), .ref (X 18), .int (nI nl), .int du, .ref (X 19), .int mo, .ref (X 20), .int (tfC (wiHolds (wiF wf wn (ltStrength 2 (lz i))) (wiN wn) ws) cl)]))], [(X 19, .inl (G.2.1 6, 2, .inr (.inr (.inr (.inr (refA 2 Z))))))], famW 2 (fun ι => slP G (Z ι) ((tfS (wiHolds (wiF wf wn (ltStrength 2 (lz i))) (wiN wn) ws) (hv5 (((lz i).1) 0) (((lz i).1) 1) (((lz i).1) 2) (((lz i).1) 3) (((lz i).1) 4), upd ((lz i).2.1) 2 (ltStrength 2 (lz i)), (lz i).2.2) sz) ι)), [(X 20, .inr (8, [.ref (X 21), .int (nI (wiN wn)), .int ws]))], [(X 21, .inl (G.2.1 0, 6, .inl (wiF wf wn (ltStrength 2 (lz i)))))], [(X 18, .inl (G.2.1 5, 12, .inr (.inr (.inr (.inr (refA 12 T))))))]]) rfl ?_
        refine V_close (i := i) (g' := fun ι => ltP G (T ι) (((va_up lz i ((lz i).1, (upd (lz i).2.1 2 (ltStrength 2 (lz i))), (lz i).2.2))) ι)) (by omega) (by simp [va_up]) (fun j _ hne => by simp [va_up, hne]) ?_
        refine V_iload hC dX8_cube_73 0 rfl ?_
        exact V_xiret hC hQ hr [1, 6, 0, 2, 3, 4, 5] (u := [[(X 0, .inr (9, [.ref (X 1), .int (nI nb), .ref (X 2), .ref (X 6), .ref (X 8), .ref (X 10), .ref (X 14), .ref (X 18), .int (nI nl), .int du, .ref (X 19), .int mo, .ref (X 20), .int (tfC (wiHolds (wiF wf wn (ltStrength 2 (lz i))) (wiN wn) ws) cl)]))], [(X 18, .inl (G.2.1 5, 12, .inr (.inr (.inr (.inr (refA 12 T))))))], famW 12 (fun ι => ltP G (T ι) (((va_up lz i ((lz i).1, (upd (lz i).2.1 2 (ltStrength 2 (lz i))), (lz i).2.2))) ι)), [(X 19, .inl (G.2.1 6, 2, .inr (.inr (.inr (.inr (refA 2 Z))))))], famW 2 (fun ι => slP G (Z ι) ((tfS (wiHolds (wiF wf wn (ltStrength 2 (lz i))) (wiN wn) ws) (hv5 (((lz i).1) 0) (((lz i).1) 1) (((lz i).1) 2) (((lz i).1) 3) (((lz i).1) 4), upd ((lz i).2.1) 2 (ltStrength 2 (lz i)), (lz i).2.2) sz) ι)), [(X 20, .inr (8, [.ref (X 21), .int (nI (wiN wn)), .int ws]))], [(X 21, .inl (G.2.1 0, 6, .inl (wiF wf wn (ltStrength 2 (lz i)))))]]) (by decide) rfl (by decide) (by decide) dX8_cube_75 (⟨i, 2, hi, rfl, by decide, rfl, ltGr_1 h7, h8, rfl, rfl⟩)
      · refine V_close (i := i) (g' := fun ι => ltP G (T ι) (lz ι)) (by omega) (rfl) (fun _ _ _ => rfl) ?_
        exact V_throwS hC hT hl0 hQ (cls := "java/lang/IllegalStateException") (text := "the LOT was not ground, or its CUBE was BROKEN") (by decide +kernel) q576 q62 (by decide +kernel) excW_is (by decide +kernel) dX8_cube_36 dX8_cube_39 dX8_cube_40 dX8_cube_42 dX8_cube_45 (by decide) (Nat.le_of_ble_eq_true rfl) (by decide) (by decide) (by decide) (by decide) [1, 2, 0, 3, 4, 5, 6] (by decide) rfl (Or.inr (Or.inr ⟨rfl, hk1b, hk2b, by rw [nI_clamp (by omega)]; exact Or.inr h8⟩))
set_option maxHeartbeats 4000000 in
set_option maxRecDepth 100000 in
/-- ClinkerWorks.grind -/
theorem c_X8_grind (l : Launch) (hl0 : l.stackTraces = false) (G : VG) (X : Nat → Nat) (nb nl : Nat) (du mo cl : Int32) (T : Nat → Nat → Nat) (lz : Nat → LV) (Z : Nat → Nat → Nat) (sz : Nat → SV) (b x y s : Int32) (hnl : nl ≤ 12) (hz : ∀ j, j < 2 → (sz j).1 < 12) : Xi l G yX8_grind cX8_grind 5 .int 7 104 5 30 [.ref (X 0), .int b, .int x, .int y, .int s] [[(X 0, .inr (9, [.ref (X 1), .int (nI nb), .ref (X 2), .ref (X 6), .ref (X 8), .ref (X 10), .ref (X 14), .ref (X 18), .int (nI nl), .int du, .ref (X 19), .int mo, .ref (X 20), .int cl]))], [(X 18, .inl (G.2.1 5, 12, .inr (.inr (.inr (.inr (refA 12 T))))))], famW 12 (fun ι => ltP G (T ι) (lz ι)), [(X 19, .inl (G.2.1 6, 2, .inr (.inr (.inr (.inr (refA 2 Z))))))], famW 2 (fun ι => slP G (Z ι) (sz ι))] (fun r u => ∃ i j : Nat, i < nl ∧ b = nI i ∧ j < 2 ∧ s = nI j ∧ (inR 1 9 x ∧ inR 0 9 y) ∧ ltGr ((lz i).1 2) = 0 ∧ r = mx 1 (mxSum (lz i).2.2.2.1) ∧ u = [[(X 0, .inr (9, [.ref (X 1), .int (nI nb), .ref (X 2), .ref (X 6), .ref (X 8), .ref (X 10), .ref (X 14), .ref (X 18), .int (nI nl), .int du, .ref (X 19), .int mo, .ref (X 20), .int cl]))], [(X 18, .inl (G.2.1 5, 12, .inr (.inr (.inr (.inr (refA 12 T))))))], famW 12 (fun ι => ltP G (T ι) ((va_up lz i (ltGround x y (nI j) (lz i))) ι)), [(X 19, .inl (G.2.1 6, 2, .inr (.inr (.inr (.inr (refA 2 Z))))))], famW 2 (fun ι => slP G (Z ι) ((va_up sz j ((sz j).1 + 1, (sz j).2.1, upd (sz j).2.2 (sz j).1 (nI i))) ι))]) (fun E => (eIX E ∧ ixB b (nI nl) = 0) ∨ (eIX E ∧ ixB b (nI nl) = 1 ∧ ixB s 2 = 0) ∨ (eIA E ∧ ixB b (nI nl) = 1 ∧ ixB s 2 = 1 ∧ ¬ (inR 1 9 x ∧ inR 0 9 y)) ∨ (eIS E ∧ ixB b (nI nl) = 1 ∧ ixB s 2 = 1 ∧ (inR 1 9 x ∧ inR 0 9 y) ∧ ¬ ltGr ((lz b.toNatClampNeg).1 2) = 0)) := by
  refine Xi_of (by decide) (Nat.le_of_ble_eq_true rfl) (fun pP eE sS mM aA bB tT cC AA QQ hC hr hT hQ => ?_)
  refine V_iload_n hC dX8_grind_0 1 rfl ?_
  refine V_aload_n hC dX8_grind_1 0 rfl ?_
  refine V_get hC dX8_grind_2 inAX8 (mem_at 0 0 rfl rfl) rfl 8 (by decide) q318 rfl (v := .int (nI nl)) rfl ?_
  refine V_xcallS hC hT hQ [.int b, .int (nI nl)] (c_X8_needIndex l hl0 G b (nI nl)) dX8_grind_5 q480 q481 q43 q482 ⟨by decide, by decide, rfl⟩ ⟨by decide, by decide⟩ rfl (Nat.le_of_ble_eq_true rfl) ⟨by decide, by decide⟩ rfl (by decide) (by decide) [0, 1, 2, 3, 4] (by decide) rfl (fun E hE => Or.inl hE) ?_ (fun u hu => hu.2)
  rintro _ ⟨hk1, rfl⟩ -
  refine V_iload hC dX8_grind_8 4 rfl ?_
  refine V_iconst hC dX8_grind_10 (v := 2) (by decide) ?_
  refine V_xcallS hC hT hQ [.int s, .int 2] (c_X8_needIndex l hl0 G s 2) dX8_grind_11 q480 q481 q43 q482 ⟨by decide, by decide, rfl⟩ ⟨by decide, by decide⟩ rfl (Nat.le_of_ble_eq_true rfl) ⟨by decide, by decide⟩ rfl (by decide) (by decide) [0, 1, 2, 3, 4] (by decide) rfl (fun E hE => Or.inr (Or.inl ⟨hE.1, hk1, hE.2⟩)) ?_ (fun u hu => hu.2)
  rintro _ ⟨hk2, rfl⟩ -
  refine V_iload_n hC dX8_grind_14 2 rfl ?_
  refine V_iconst hC dX8_grind_15 (v := 1) (by decide) ?_
  refine V_bipush hC dX8_grind_16 (v := 9) (by decide) ?_
  refine V_xcallS hC hT hQ [.int x, .int 1, .int 9] (c_X8_needArgument l hl0 G x 1 9) dX8_grind_18 q390 q391 q43 q392 ⟨by decide, by decide, rfl⟩ ⟨by decide, by decide⟩ rfl (Nat.le_of_ble_eq_true rfl) ⟨by decide, by decide⟩ rfl (by decide) (by decide) [0, 1, 2, 3, 4] (by decide) rfl (fun E hE => Or.inr (Or.inr (Or.inl ⟨hE.1, hk1, hk2, fun e => hE.2 e.1⟩))) ?_ (fun u hu => hu.2)
  rintro _ ⟨hk3, rfl⟩ -
  refine V_iload_n hC dX8_grind_21 3 rfl ?_
  refine V_iconst hC dX8_grind_22 (v := 0) (by decide) ?_
  refine V_bipush hC dX8_grind_23 (v := 9) (by decide) ?_
  refine V_xcallS hC hT hQ [.int y, .int 0, .int 9] (c_X8_needArgument l hl0 G y 0 9) dX8_grind_25 q390 q391 q43 q392 ⟨by decide, by decide, rfl⟩ ⟨by decide, by decide⟩ rfl (Nat.le_of_ble_eq_true rfl) ⟨by decide, by decide⟩ rfl (by decide) (by decide) [0, 1, 2, 3, 4] (by decide) rfl (fun E hE => Or.inr (Or.inr (Or.inl ⟨hE.1, hk1, hk2, fun e => hE.2 e.2⟩))) ?_ (fun u hu => hu.2)
  rintro _ ⟨hk4, rfl⟩ -
  have hok : inR 1 9 x ∧ inR 0 9 y := ⟨hk3, hk4⟩
  have hk1b := hk1
  have hk2b := hk2
  obtain ⟨i, hi, rfl⟩ := ixB_of hk1
  obtain ⟨j, hj, rfl⟩ := ixB_of (n := 2) hk2
  refine V_aload_n hC dX8_grind_28 0 rfl ?_
  refine V_get hC dX8_grind_29 inAX8 (mem_at 0 0 rfl rfl) rfl 7 (by decide) q317 rfl (v := .ref (X 18)) rfl ?_
  refine V_iload_n hC dX8_grind_32 1 rfl ?_
  refine V_aald hC dX8_grind_33 5 rfl (mem_at 1 0 rfl rfl) (vp_in_nI (by omega) (by omega)) (x := i) (nI_clamp (by omega)) (b := (T i) 0) (refA_at (by omega)) ?_
  refine V_sub [2, 0, 1, 3, 4] (by decide) (u := [famW 12 (fun ι => ltP G (T ι) (lz ι)), [(X 0, .inr (9, [.ref (X 1), .int (nI nb), .ref (X 2), .ref (X 6), .ref (X 8), .ref (X 10), .ref (X 14), .ref (X 18), .int (nI nl), .int du, .ref (X 19), .int mo, .ref (X 20), .int cl]))], [(X 18, .inl (G.2.1 5, 12, .inr (.inr (.inr (.inr (refA 12 T))))))], [(X 19, .inl (G.2.1 6, 2, .inr (.inr (.inr (.inr (refA 2 Z))))))], famW 2 (fun ι => slP G (Z ι) (sz ι))]) rfl ?_
  refine V_open (i := i) (by omega) ?_
  refine V_calli hC (V_runV hC (rest := []) [] (k_X3_isGround l G (T i) (lz i)) [0] rfl (by decide) q814 q815 q816 q50 q817 ⟨by decide, by decide, rfl⟩ ⟨by decide, by decide⟩ (ci := 4) rfl (mem_at 0 0 rfl rfl) rfl (Nat.le_of_ble_eq_true rfl) ⟨by decide, by decide⟩ dX8_grind_34) (is := [0]) rfl [1, 2, 3, 4, 5] (rs := [famX 12 i (fun ι => ltP G (T ι) (lz ι)), [(X 0, .inr (9, [.ref (X 1), .int (nI nb), .ref (X 2), .ref (X 6), .ref (X 8), .ref (X 10), .ref (X 14), .ref (X 18), .int (nI nl), .int du, .ref (X 19), .int mo, .ref (X 20), .int cl]))], [(X 18, .inl (G.2.1 5, 12, .inr (.inr (.inr (.inr (refA 12 T))))))], [(X 19, .inl (G.2.1 6, 2, .inr (.inr (.inr (.inr (refA 2 Z))))))], famW 2 (fun ι => slP G (Z ι) (sz ι))]) rfl (by decide) (by decide) ?_
  rintro _ _ ⟨rfl, rfl⟩
  refine V_if_eq hC dX8_grind_37 (tgt := 50) (by decide) (fun h5 => ?_) (fun h5 => ?_)
  · refine V_aload_n hC dX8_grind_50 0 rfl ?_
    refine V_get hC dX8_grind_51 inAX8 (mem_at 2 0 rfl rfl) rfl 7 (by decide) q317 rfl (v := .ref (X 18)) rfl ?_
    refine V_iload_n hC dX8_grind_54 1 rfl ?_
    refine V_aald hC dX8_grind_55 5 rfl (mem_at 3 0 rfl rfl) (vp_in_nI (by omega) (by omega)) (x := i) (nI_clamp (by omega)) (b := (T i) 0) (refA_at (by omega)) ?_
    refine V_iload_n hC dX8_grind_56 2 rfl ?_
    refine V_iload_n hC dX8_grind_57 3 rfl ?_
    refine V_iload hC dX8_grind_58 4 rfl ?_
    refine V_callv hC (V_runV hC (rest := []) [.int x, .int y, .int (nI j)] (k_X3_setGround l G (T i) (lz i) x y (nI j)) [0] rfl (by decide) q819 q820 q821 q50 q822 ⟨by decide, by decide, rfl⟩ ⟨by decide, by decide⟩ (ci := 4) rfl (mem_at 0 0 rfl rfl) rfl (Nat.le_of_ble_eq_true rfl) ⟨by decide, by decide⟩ dX8_grind_60) (is := [0]) rfl [1, 2, 3, 4, 5] (rs := [famX 12 i (fun ι => ltP G (T ι) (lz ι)), [(X 0, .inr (9, [.ref (X 1), .int (nI nb), .ref (X 2), .ref (X 6), .ref (X 8), .ref (X 10), .ref (X 14), .ref (X 18), .int (nI nl), .int du, .ref (X 19), .int mo, .ref (X 20), .int cl]))], [(X 18, .inl (G.2.1 5, 12, .inr (.inr (.inr (.inr (refA 12 T))))))], [(X 19, .inl (G.2.1 6, 2, .inr (.inr (.inr (.inr (refA 2 Z))))))], famW 2 (fun ι => slP G (Z ι) (sz ι))]) rfl (by decide) (by decide) ?_
    rintro _ rfl
    refine V_aload_n hC dX8_grind_63 0 rfl ?_
    refine V_get hC dX8_grind_64 inAX8 (mem_at 2 0 rfl rfl) rfl 10 (by decide) q320 rfl (v := .ref (X 19)) rfl ?_
    refine V_iload hC dX8_grind_67 4 rfl ?_
    refine V_aald hC dX8_grind_69 6 rfl (mem_at 4 0 rfl rfl) (vp_in_nI (by omega) (by omega)) (x := j) (nI_clamp (by omega)) (b := (Z j) 0) (refA_at (by omega)) ?_
    refine V_sub [5, 0, 1, 2, 3, 4] (by decide) (u := [famW 2 (fun ι => slP G (Z ι) (sz ι)), ltP G (T i) (ltGround x y (nI j) (lz i)), famX 12 i (fun ι => ltP G (T ι) (lz ι)), [(X 0, .inr (9, [.ref (X 1), .int (nI nb), .ref (X 2), .ref (X 6), .ref (X 8), .ref (X 10), .ref (X 14), .ref (X 18), .int (nI nl), .int du, .ref (X 19), .int mo, .ref (X 20), .int cl]))], [(X 18, .inl (G.2.1 5, 12, .inr (.inr (.inr (.inr (refA 12 T))))))], [(X 19, .inl (G.2.1 6, 2, .inr (.inr (.inr (.inr (refA 2 Z))))))]]) rfl ?_
    refine V_open (i := j) (hj) ?_
    refine V_iload_n hC dX8_grind_70 1 rfl ?_
    refine V_callv hC (V_runV hC (rest := []) [.int (nI i)] (k_X6_addLot l G (Z j) (sz j) (nI i) (hz j hj)) [0] rfl (by decide) q828 q829 q830 q51 q831 ⟨by decide, by decide, rfl⟩ ⟨by decide, by decide⟩ (ci := 7) rfl (mem_at 0 0 rfl rfl) rfl (Nat.le_of_ble_eq_true rfl) ⟨by decide, by decide⟩ dX8_grind_71) (is := [0]) rfl [1, 2, 3, 4, 5, 6] (rs := [famX 2 j (fun ι => slP G (Z ι) (sz ι)), ltP G (T i) (ltGround x y (nI j) (lz i)), famX 12 i (fun ι => ltP G (T ι) (lz ι)), [(X 0, .inr (9, [.ref (X 1), .int (nI nb), .ref (X 2), .ref (X 6), .ref (X 8), .ref (X 10), .ref (X 14), .ref (X 18), .int (nI nl), .int du, .ref (X 19), .int mo, .ref (X 20), .int cl]))], [(X 18, .inl (G.2.1 5, 12, .inr (.inr (.inr (.inr (refA 12 T))))))], [(X 19, .inl (G.2.1 6, 2, .inr (.inr (.inr (.inr (refA 2 Z))))))]]) rfl (by decide) (by decide) ?_
    rintro _ rfl
    refine V_aload_n hC dX8_grind_74 0 rfl ?_
    refine V_get hC dX8_grind_75 inAX8 (mem_at 4 0 rfl rfl) rfl 7 (by decide) q317 rfl (v := .ref (X 18)) rfl ?_
    refine V_iload_n hC dX8_grind_78 1 rfl ?_
    refine V_aald hC dX8_grind_79 5 rfl (mem_at 5 0 rfl rfl) (vp_in_nI (by omega) (by omega)) (x := i) (nI_clamp (by omega)) (b := (T i) 0) (refA_at (by omega)) ?_
    refine V_get hC dX8_grind_80 inAX3 (mem_at 2 0 rfl rfl) rfl 5 (by decide) q276 rfl (v := .int (((ltGround x y (nI j) (lz i)).1) 4)) rfl ?_
    refine V_close (i := j) (g' := fun ι => slP G (Z ι) (((va_up sz j ((sz j).1 + 1, (sz j).2.1, upd (sz j).2.2 (sz j).1 (nI i)))) ι)) (hj) (by simp [va_up]) (fun j _ hne => by simp [va_up, hne]) ?_
    refine V_sub [1, 2, 0, 3, 4, 5] (by decide) (u := [ltP G (T i) (ltGround x y (nI j) (lz i)), famX 12 i (fun ι => ltP G (T ι) (lz ι)), famW 2 (fun ι => slP G (Z ι) (((va_up sz j ((sz j).1 + 1, (sz j).2.1, upd (sz j).2.2 (sz j).1 (nI i)))) ι)), [(X 0, .inr (9, [.ref (X 1), .int (nI nb), .ref (X 2), .ref (X 6), .ref (X 8), .ref (X 10), .ref (X 14), .ref (X 18), .int (nI nl), .int du, .ref (X 19), .int mo, .ref (X 20), .int cl]))], [(X 18, .inl (G.2.1 5, 12, .inr (.inr (.inr (.inr (refA 12 T))))))], [(X 19, .inl (G.2.1 6, 2, .inr (.inr (.inr (.inr (refA 2 Z))))))]]) rfl ?_
    refine V_close (i := i) (g' := fun ι => ltP G (T ι) (((va_up lz i (ltGround x y (nI j) (lz i)))) ι)) (by omega) (by simp [va_up]) (fun j _ hne => by simp [va_up, hne]) ?_
    exact V_xiret hC hQ hr [2, 3, 0, 4, 1] (u := [[(X 0, .inr (9, [.ref (X 1), .int (nI nb), .ref (X 2), .ref (X 6), .ref (X 8), .ref (X 10), .ref (X 14), .ref (X 18), .int (nI nl), .int du, .ref (X 19), .int mo, .ref (X 20), .int cl]))], [(X 18, .inl (G.2.1 5, 12, .inr (.inr (.inr (.inr (refA 12 T))))))], famW 12 (fun ι => ltP G (T ι) (((va_up lz i (ltGround x y (nI j) (lz i)))) ι)), [(X 19, .inl (G.2.1 6, 2, .inr (.inr (.inr (.inr (refA 2 Z))))))], famW 2 (fun ι => slP G (Z ι) (((va_up sz j ((sz j).1 + 1, (sz j).2.1, upd (sz j).2.2 (sz j).1 (nI i)))) ι))]) (by decide) rfl (by decide) (by decide) dX8_grind_83 (⟨i, j, hi, rfl, hj, rfl, hok, h5, rfl, rfl⟩)
  · refine V_close (i := i) (g' := fun ι => ltP G (T ι) (lz ι)) (by omega) (rfl) (fun _ _ _ => rfl) ?_
    exact V_throwS hC hT hl0 hQ (cls := "java/lang/IllegalStateException") (text := "the LOT was ground") (by decide +kernel) q576 q62 (by decide +kernel) excW_is (by decide +kernel) dX8_grind_40 dX8_grind_43 dX8_grind_44 dX8_grind_46 dX8_grind_49 (by decide) (Nat.le_of_ble_eq_true rfl) (by decide) (by decide) (by decide) (by decide) [1, 2, 0, 3, 4] (by decide) rfl (Or.inr (Or.inr (Or.inr ⟨rfl, hk1b, hk2b, hok, by rw [nI_clamp (by omega)]; exact h5⟩)))
