/-! ===== what one asks the class ===== -/
theorem inR_of {x : Int32} {M : Nat} (h : inR 0 (nI M) x) (hM : M < 2 ^ 31 := by omega) : ∃ w : Nat, w ≤ M ∧ x = nI w := by
  obtain ⟨j, hj, rfl⟩ := nI_of (i32_nlt h.1)
  exact ⟨j, nle h.2, rfl⟩
def qBlock (z : BV) (w : Nat) : Int32 := match w with
  | 0 => z.1
  | 1 => z.2.1
  | k + 2 => bkOx z k
def qCell (v : CV) (wa : Int32) (w : Nat) : Int32 := match w with
  | 0 => wa
  | 1 => if v.1 0 = 0 then 0 else 1
  | 2 => if v.1 0 = 0 then 0 else v.1 1
  | 3 => if v.1 0 = 0 then 0 else v.1 2
  | 4 => if v.1 0 = 0 then 0 else v.1 3
  | 5 => if v.1 0 = 0 then 0 else v.1 4
  | 6 => if v.1 0 = 0 then 0 else v.1 5
  | _ => if v.1 0 = 0 then 0 else mxMelt v.2.1
def qLot (z : LV) (w : Nat) : Int32 := match w with
  | 0 => z.2.2.2.1 0
  | 1 => z.2.2.2.1 1
  | 2 => z.2.2.2.1 2
  | 3 => z.2.2.2.1 3
  | 4 => z.2.2.1 1
  | 5 => z.2.2.1 2
  | 6 => z.2.2.1 3
  | 7 => z.2.2.1 4
  | 8 => z.2.2.1 5
  | 9 => z.1 0
  | 10 => z.1 1
  | 11 => z.1 2
  | 12 => z.1 4
  | 13 => z.2.1 0
  | 14 => z.2.1 1
  | 15 => z.2.1 2
  | k + 16 => z.2.2.2.2 k
def qMod (f : Nat → Int32) (w : Nat) : Int32 := match w with
  | 0 => mxSat f
  | 1 => mxSil f
  | 2 => mxAlu f
  | _ => mxRight f
def qMany (nb n nl : Nat) (g : Nat → Int32) (S : KS) (du mo cl : Int32) (wn : Nat) (sz : Nat → SV) (ws : Int32) (w : Nat) : Int32 := match w with
  | 0 => nI nb
  | 1 => nI n
  | 2 => sm g n
  | 3 => nI S.2.1
  | 4 => S.1 0
  | 5 => S.1 1
  | 6 => S.1 3
  | 7 => S.1 2
  | 8 => S.1 4
  | 9 => S.1 5
  | 10 => nI nl
  | 11 => du
  | 12 => S.1 6
  | 13 => mo
  | 14 => cl
  | 15 => nI wn
  | 16 => (sz 0).2.1 + 2 * (sz 1).2.1
  | _ => ws
theorem mxRight01 (f : Nat → Int32) : mxRight f = 0 ∨ mxRight f = 1 := by unfold mxRight; split; exact Or.inl rfl; split; exact Or.inl rfl; split; exact Or.inl rfl; exact Or.inr rfl
set_option maxHeartbeats 4000000 in
set_option maxRecDepth 100000 in
/-- ClinkerWorks.ofBlock -/
theorem c_X8_ofBlock (l : Launch) (hl0 : l.stackTraces = false) (G : VG) (X : Nat → Nat) (nb nl : Nat) (du mo cl : Int32) (B : Nat → Nat → Nat) (bz : Nat → BV) (b x : Int32) (hnb : nb ≤ 6) (hk01 : ∀ j, j < 6 → (bz j).2.1 = 0 ∨ (bz j).2.1 = 1) : Xi l G yX8_ofBlock cX8_ofBlock 3 .int 7 104 2 12 [.ref (X 0), .int b, .int x] [[(X 0, .inr (9, [.ref (X 1), .int (nI nb), .ref (X 2), .ref (X 6), .ref (X 8), .ref (X 10), .ref (X 14), .ref (X 18), .int (nI nl), .int du, .ref (X 19), .int mo, .ref (X 20), .int cl]))], [(X 1, .inl (G.2.1 3, 6, .inr (.inr (.inr (.inr (refA 6 B))))))], famW 6 (fun ι => bkP G (B ι) (bz ι))] (fun r u => ∃ i w : Nat, i < nb ∧ b = nI i ∧ w ≤ 5 ∧ x = nI w ∧ r = qBlock (bz i) w ∧ u = [[(X 0, .inr (9, [.ref (X 1), .int (nI nb), .ref (X 2), .ref (X 6), .ref (X 8), .ref (X 10), .ref (X 14), .ref (X 18), .int (nI nl), .int du, .ref (X 19), .int mo, .ref (X 20), .int cl]))], [(X 1, .inl (G.2.1 3, 6, .inr (.inr (.inr (.inr (refA 6 B))))))], famW 6 (fun ι => bkP G (B ι) (bz ι))]) (fun E => (eIX E ∧ ixB b (nI nb) = 0) ∨ (eIA E ∧ ixB b (nI nb) = 1 ∧ ¬ inR 0 5 x)) := by
  refine Xi_of (by decide) (Nat.le_of_ble_eq_true rfl) (fun pP eE sS mM aA bB tT cC AA QQ hC hr hT hQ => ?_)
  refine V_iload_n hC dX8_ofBlock_0 1 rfl ?_
  refine V_aload_n hC dX8_ofBlock_1 0 rfl ?_
  refine V_get hC dX8_ofBlock_2 inAX8 (mem_at 0 0 rfl rfl) rfl 1 (by decide) q311 rfl (v := .int (nI nb)) rfl ?_
  refine V_xcallS hC hT hQ [.int b, .int (nI nb)] (c_X8_needIndex l hl0 G b (nI nb)) dX8_ofBlock_5 q480 q481 q43 q482 ⟨by decide, by decide, rfl⟩ ⟨by decide, by decide⟩ rfl (Nat.le_of_ble_eq_true rfl) ⟨by decide, by decide⟩ rfl (by decide) (by decide) [0, 1, 2] (by decide) rfl (fun E hE => Or.inl hE) ?_ (fun u hu => hu.2)
  rintro _ ⟨hk1, rfl⟩ -
  refine V_iload_n hC dX8_ofBlock_8 2 rfl ?_
  refine V_iconst hC dX8_ofBlock_9 (v := 0) (by decide) ?_
  refine V_iconst hC dX8_ofBlock_10 (v := 5) (by decide) ?_
  refine V_xcallS hC hT hQ [.int x, .int 0, .int 5] (c_X8_needArgument l hl0 G x 0 5) dX8_ofBlock_11 q390 q391 q43 q392 ⟨by decide, by decide, rfl⟩ ⟨by decide, by decide⟩ rfl (Nat.le_of_ble_eq_true rfl) ⟨by decide, by decide⟩ rfl (by decide) (by decide) [0, 1, 2] (by decide) rfl (fun E hE => Or.inr ⟨hE.1, hk1, hE.2⟩) ?_ (fun u hu => hu.2)
  rintro _ ⟨hk2, rfl⟩ -
  have hk1b := hk1
  obtain ⟨i, hi, rfl⟩ := ixB_of hk1
  obtain ⟨w, hw, rfl⟩ := inR_of (M := 5) hk2
  rcases (show w = 0 ∨ w = 1 ∨ w = 2 ∨ w = 3 ∨ w = 4 ∨ w = 5 by omega) with rfl | rfl | rfl | rfl | rfl | rfl
  · refine V_iload_n hC dX8_ofBlock_14 2 rfl ?_
    refine V_if_neF hC dX8_ofBlock_15 (tgt := 28) (by decide) (by decide) ?_
    refine V_aload_n hC dX8_ofBlock_18 0 rfl ?_
    refine V_get hC dX8_ofBlock_19 inAX8 (mem_at 0 0 rfl rfl) rfl 0 (by decide) q310 rfl (v := .ref (X 1)) rfl ?_
    refine V_iload_n hC dX8_ofBlock_22 1 rfl ?_
    refine V_aald hC dX8_ofBlock_23 3 rfl (mem_at 1 0 rfl rfl) (vp_in_nI (by omega) (by omega)) (x := i) (nI_clamp (by omega)) (b := (B i) 0) (refA_at (by omega)) ?_
    refine V_get hC dX8_ofBlock_24 inAX0 (mem_fam 2 0 rfl i (by first | assumption | omega) rfl) rfl 0 (by decide) q248 rfl (v := .int ((bz i).1)) rfl ?_
    exact V_xiret hC hQ hr [0, 1, 2] (u := [[(X 0, .inr (9, [.ref (X 1), .int (nI nb), .ref (X 2), .ref (X 6), .ref (X 8), .ref (X 10), .ref (X 14), .ref (X 18), .int (nI nl), .int du, .ref (X 19), .int mo, .ref (X 20), .int cl]))], [(X 1, .inl (G.2.1 3, 6, .inr (.inr (.inr (.inr (refA 6 B))))))], famW 6 (fun ι => bkP G (B ι) (bz ι))]) (by decide) rfl (by decide) (by decide) dX8_ofBlock_27 (⟨i, 0, hi, rfl, by decide, rfl, rfl, rfl⟩)
  · refine V_iload_n hC dX8_ofBlock_14 2 rfl ?_
    refine V_if_neT hC dX8_ofBlock_15 (tgt := 28) (by decide) (by decide) ?_
    refine V_iload_n hC dX8_ofBlock_28 2 rfl ?_
    refine V_iconst hC dX8_ofBlock_29 (v := 1) (by decide) ?_
    refine V_icmp_neF hC dX8_ofBlock_30 (tgt := 46) (by decide) (by decide) ?_
    refine V_aload_n hC dX8_ofBlock_33 0 rfl ?_
    refine V_get hC dX8_ofBlock_34 inAX8 (mem_at 0 0 rfl rfl) rfl 0 (by decide) q310 rfl (v := .ref (X 1)) rfl ?_
    refine V_iload_n hC dX8_ofBlock_37 1 rfl ?_
    refine V_aald hC dX8_ofBlock_38 3 rfl (mem_at 1 0 rfl rfl) (vp_in_nI (by omega) (by omega)) (x := i) (nI_clamp (by omega)) (b := (B i) 0) (refA_at (by omega)) ?_
    refine V_get hC dX8_ofBlock_39 inAX0 (mem_fam 2 0 rfl i (by first | assumption | omega) rfl) rfl 1 (by decide) q250 rfl (v := .int ((bz i).2.1)) rfl ?_
    refine V_calli hC (V_runS hC (rest := []) [.int ((bz i).2.1)] (c_X8_asNumber l G ((bz i).2.1) (hk01 i (by omega))) [] rfl (by decide) q465 q466 q43 q467 ⟨by decide, by decide, rfl⟩ ⟨by decide, by decide⟩ rfl (Nat.le_of_ble_eq_true rfl) ⟨by decide, by decide⟩ dX8_ofBlock_42) (is := []) rfl [0, 1, 2] (rs := [[(X 0, .inr (9, [.ref (X 1), .int (nI nb), .ref (X 2), .ref (X 6), .ref (X 8), .ref (X 10), .ref (X 14), .ref (X 18), .int (nI nl), .int du, .ref (X 19), .int mo, .ref (X 20), .int cl]))], [(X 1, .inl (G.2.1 3, 6, .inr (.inr (.inr (.inr (refA 6 B))))))], famW 6 (fun ι => bkP G (B ι) (bz ι))]) rfl (by decide) (by decide) ?_
    rintro _ _ ⟨rfl, rfl⟩
    exact V_xiret hC hQ hr [0, 1, 2] (u := [[(X 0, .inr (9, [.ref (X 1), .int (nI nb), .ref (X 2), .ref (X 6), .ref (X 8), .ref (X 10), .ref (X 14), .ref (X 18), .int (nI nl), .int du, .ref (X 19), .int mo, .ref (X 20), .int cl]))], [(X 1, .inl (G.2.1 3, 6, .inr (.inr (.inr (.inr (refA 6 B))))))], famW 6 (fun ι => bkP G (B ι) (bz ι))]) (by decide) rfl (by decide) (by decide) dX8_ofBlock_45 (⟨i, 1, hi, rfl, by decide, rfl, rfl, rfl⟩)
  · refine V_iload_n hC dX8_ofBlock_14 2 rfl ?_
    refine V_if_neT hC dX8_ofBlock_15 (tgt := 28) (by decide) (by decide) ?_
    refine V_iload_n hC dX8_ofBlock_28 2 rfl ?_
    refine V_iconst hC dX8_ofBlock_29 (v := 1) (by decide) ?_
    refine V_icmp_neT hC dX8_ofBlock_30 (tgt := 46) (by decide) (by decide) ?_
    refine V_aload_n hC dX8_ofBlock_46 0 rfl ?_
    refine V_get hC dX8_ofBlock_47 inAX8 (mem_at 0 0 rfl rfl) rfl 0 (by decide) q310 rfl (v := .ref (X 1)) rfl ?_
    refine V_iload_n hC dX8_ofBlock_50 1 rfl ?_
    refine V_aald hC dX8_ofBlock_51 3 rfl (mem_at 1 0 rfl rfl) (vp_in_nI (by omega) (by omega)) (x := i) (nI_clamp (by omega)) (b := (B i) 0) (refA_at (by omega)) ?_
    refine V_iload_n hC dX8_ofBlock_52 2 rfl ?_
    refine V_iconst hC dX8_ofBlock_53 (v := 2) (by decide) ?_
    refine V_isub hC dX8_ofBlock_54 ?_
    refine V_eqi (y := 0) (by decide) ?_
    refine V_sub [2, 0, 1] (by decide) (u := [famW 6 (fun ι => bkP G (B ι) (bz ι)), [(X 0, .inr (9, [.ref (X 1), .int (nI nb), .ref (X 2), .ref (X 6), .ref (X 8), .ref (X 10), .ref (X 14), .ref (X 18), .int (nI nl), .int du, .ref (X 19), .int mo, .ref (X 20), .int cl]))], [(X 1, .inl (G.2.1 3, 6, .inr (.inr (.inr (.inr (refA 6 B))))))]]) rfl ?_
    refine V_open (i := i) (by omega) ?_
    refine V_calli hC (V_runV hC (rest := []) [.int 0] (k_X0_believed l G (B i) (bz i) 0 0 (by decide) (by decide)) [0] rfl (by decide) q502 q503 q504 q49 q505 ⟨by decide, by decide, rfl⟩ ⟨by decide, by decide⟩ (ci := 1) rfl (mem_at 0 0 rfl rfl) rfl (Nat.le_of_ble_eq_true rfl) ⟨by decide, by decide⟩ dX8_ofBlock_55) (is := [0]) rfl [1, 2, 3] (rs := [famX 6 i (fun ι => bkP G (B ι) (bz ι)), [(X 0, .inr (9, [.ref (X 1), .int (nI nb), .ref (X 2), .ref (X 6), .ref (X 8), .ref (X 10), .ref (X 14), .ref (X 18), .int (nI nl), .int du, .ref (X 19), .int mo, .ref (X 20), .int cl]))], [(X 1, .inl (G.2.1 3, 6, .inr (.inr (.inr (.inr (refA 6 B))))))]]) rfl (by decide) (by decide) ?_
    rintro _ _ ⟨rfl, rfl⟩
    refine V_close (i := i) (g' := fun ι => bkP G (B ι) (bz ι)) (by omega) (rfl) (fun _ _ _ => rfl) ?_
    exact V_xiret hC hQ hr [1, 2, 0] (u := [[(X 0, .inr (9, [.ref (X 1), .int (nI nb), .ref (X 2), .ref (X 6), .ref (X 8), .ref (X 10), .ref (X 14), .ref (X 18), .int (nI nl), .int du, .ref (X 19), .int mo, .ref (X 20), .int cl]))], [(X 1, .inl (G.2.1 3, 6, .inr (.inr (.inr (.inr (refA 6 B))))))], famW 6 (fun ι => bkP G (B ι) (bz ι))]) (by decide) rfl (by decide) (by decide) dX8_ofBlock_58 (⟨i, 2, hi, rfl, by decide, rfl, rfl, rfl⟩)
  · refine V_iload_n hC dX8_ofBlock_14 2 rfl ?_
    refine V_if_neT hC dX8_ofBlock_15 (tgt := 28) (by decide) (by decide) ?_
    refine V_iload_n hC dX8_ofBlock_28 2 rfl ?_
    refine V_iconst hC dX8_ofBlock_29 (v := 1) (by decide) ?_
    refine V_icmp_neT hC dX8_ofBlock_30 (tgt := 46) (by decide) (by decide) ?_
    refine V_aload_n hC dX8_ofBlock_46 0 rfl ?_
    refine V_get hC dX8_ofBlock_47 inAX8 (mem_at 0 0 rfl rfl) rfl 0 (by decide) q310 rfl (v := .ref (X 1)) rfl ?_
    refine V_iload_n hC dX8_ofBlock_50 1 rfl ?_
    refine V_aald hC dX8_ofBlock_51 3 rfl (mem_at 1 0 rfl rfl) (vp_in_nI (by omega) (by omega)) (x := i) (nI_clamp (by omega)) (b := (B i) 0) (refA_at (by omega)) ?_
    refine V_iload_n hC dX8_ofBlock_52 2 rfl ?_
    refine V_iconst hC dX8_ofBlock_53 (v := 2) (by decide) ?_
    refine V_isub hC dX8_ofBlock_54 ?_
    refine V_eqi (y := 1) (by decide) ?_
    refine V_sub [2, 0, 1] (by decide) (u := [famW 6 (fun ι => bkP G (B ι) (bz ι)), [(X 0, .inr (9, [.ref (X 1), .int (nI nb), .ref (X 2), .ref (X 6), .ref (X 8), .ref (X 10), .ref (X 14), .ref (X 18), .int (nI nl), .int du, .ref (X 19), .int mo, .ref (X 20), .int cl]))], [(X 1, .inl (G.2.1 3, 6, .inr (.inr (.inr (.inr (refA 6 B))))))]]) rfl ?_
    refine V_open (i := i) (by omega) ?_
    refine V_calli hC (V_runV hC (rest := []) [.int 1] (k_X0_believed l G (B i) (bz i) 1 1 (by decide) (by decide)) [0] rfl (by decide) q502 q503 q504 q49 q505 ⟨by decide, by decide, rfl⟩ ⟨by decide, by decide⟩ (ci := 1) rfl (mem_at 0 0 rfl rfl) rfl (Nat.le_of_ble_eq_true rfl) ⟨by decide, by decide⟩ dX8_ofBlock_55) (is := [0]) rfl [1, 2, 3] (rs := [famX 6 i (fun ι => bkP G (B ι) (bz ι)), [(X 0, .inr (9, [.ref (X 1), .int (nI nb), .ref (X 2), .ref (X 6), .ref (X 8), .ref (X 10), .ref (X 14), .ref (X 18), .int (nI nl), .int du, .ref (X 19), .int mo, .ref (X 20), .int cl]))], [(X 1, .inl (G.2.1 3, 6, .inr (.inr (.inr (.inr (refA 6 B))))))]]) rfl (by decide) (by decide) ?_
    rintro _ _ ⟨rfl, rfl⟩
    refine V_close (i := i) (g' := fun ι => bkP G (B ι) (bz ι)) (by omega) (rfl) (fun _ _ _ => rfl) ?_
    exact V_xiret hC hQ hr [1, 2, 0] (u := [[(X 0, .inr (9, [.ref (X 1), .int (nI nb), .ref (X 2), .ref (X 6), .ref (X 8), .ref (X 10), .ref (X 14), .ref (X 18), .int (nI nl), .int du, .ref (X 19), .int mo, .ref (X 20), .int cl]))], [(X 1, .inl (G.2.1 3, 6, .inr (.inr (.inr (.inr (refA 6 B))))))], famW 6 (fun ι => bkP G (B ι) (bz ι))]) (by decide) rfl (by decide) (by decide) dX8_ofBlock_58 (⟨i, 3, hi, rfl, by decide, rfl, rfl, rfl⟩)
  · refine V_iload_n hC dX8_ofBlock_14 2 rfl ?_
    refine V_if_neT hC dX8_ofBlock_15 (tgt := 28) (by decide) (by decide) ?_
    refine V_iload_n hC dX8_ofBlock_28 2 rfl ?_
    refine V_iconst hC dX8_ofBlock_29 (v := 1) (by decide) ?_
    refine V_icmp_neT hC dX8_ofBlock_30 (tgt := 46) (by decide) (by decide) ?_
    refine V_aload_n hC dX8_ofBlock_46 0 rfl ?_
    refine V_get hC dX8_ofBlock_47 inAX8 (mem_at 0 0 rfl rfl) rfl 0 (by decide) q310 rfl (v := .ref (X 1)) rfl ?_
    refine V_iload_n hC dX8_ofBlock_50 1 rfl ?_
    refine V_aald hC dX8_ofBlock_51 3 rfl (mem_at 1 0 rfl rfl) (vp_in_nI (by omega) (by omega)) (x := i) (nI_clamp (by omega)) (b := (B i) 0) (refA_at (by omega)) ?_
    refine V_iload_n hC dX8_ofBlock_52 2 rfl ?_
    refine V_iconst hC dX8_ofBlock_53 (v := 2) (by decide) ?_
    refine V_isub hC dX8_ofBlock_54 ?_
    refine V_eqi (y := 2) (by decide) ?_
    refine V_sub [2, 0, 1] (by decide) (u := [famW 6 (fun ι => bkP G (B ι) (bz ι)), [(X 0, .inr (9, [.ref (X 1), .int (nI nb), .ref (X 2), .ref (X 6), .ref (X 8), .ref (X 10), .ref (X 14), .ref (X 18), .int (nI nl), .int du, .ref (X 19), .int mo, .ref (X 20), .int cl]))], [(X 1, .inl (G.2.1 3, 6, .inr (.inr (.inr (.inr (refA 6 B))))))]]) rfl ?_
    refine V_open (i := i) (by omega) ?_
    refine V_calli hC (V_runV hC (rest := []) [.int 2] (k_X0_believed l G (B i) (bz i) 2 2 (by decide) (by decide)) [0] rfl (by decide) q502 q503 q504 q49 q505 ⟨by decide, by decide, rfl⟩ ⟨by decide, by decide⟩ (ci := 1) rfl (mem_at 0 0 rfl rfl) rfl (Nat.le_of_ble_eq_true rfl) ⟨by decide, by decide⟩ dX8_ofBlock_55) (is := [0]) rfl [1, 2, 3] (rs := [famX 6 i (fun ι => bkP G (B ι) (bz ι)), [(X 0, .inr (9, [.ref (X 1), .int (nI nb), .ref (X 2), .ref (X 6), .ref (X 8), .ref (X 10), .ref (X 14), .ref (X 18), .int (nI nl), .int du, .ref (X 19), .int mo, .ref (X 20), .int cl]))], [(X 1, .inl (G.2.1 3, 6, .inr (.inr (.inr (.inr (refA 6 B))))))]]) rfl (by decide) (by decide) ?_
    rintro _ _ ⟨rfl, rfl⟩
    refine V_close (i := i) (g' := fun ι => bkP G (B ι) (bz ι)) (by omega) (rfl) (fun _ _ _ => rfl) ?_
    exact V_xiret hC hQ hr [1, 2, 0] (u := [[(X 0, .inr (9, [.ref (X 1), .int (nI nb), .ref (X 2), .ref (X 6), .ref (X 8), .ref (X 10), .ref (X 14), .ref (X 18), .int (nI nl), .int du, .ref (X 19), .int mo, .ref (X 20), .int cl]))], [(X 1, .inl (G.2.1 3, 6, .inr (.inr (.inr (.inr (refA 6 B))))))], famW 6 (fun ι => bkP G (B ι) (bz ι))]) (by decide) rfl (by decide) (by decide) dX8_ofBlock_58 (⟨i, 4, hi, rfl, by decide, rfl, rfl, rfl⟩)
  · refine V_iload_n hC dX8_ofBlock_14 2 rfl ?_
    refine V_if_neT hC dX8_ofBlock_15 (tgt := 28) (by decide) (by decide) ?_
    refine V_iload_n hC dX8_ofBlock_28 2 rfl ?_
    refine V_iconst hC dX8_ofBlock_29 (v := 1) (by decide) ?_
    refine V_icmp_neT hC dX8_ofBlock_30 (tgt := 46) (by decide) (by decide) ?_
    refine V_aload_n hC dX8_ofBlock_46 0 rfl ?_
    refine V_get hC dX8_ofBlock_47 inAX8 (mem_at 0 0 rfl rfl) rfl 0 (by decide) q310 rfl (v := .ref (X 1)) rfl ?_
    refine V_iload_n hC dX8_ofBlock_50 1 rfl ?_
    refine V_aald hC dX8_ofBlock_51 3 rfl (mem_at 1 0 rfl rfl) (vp_in_nI (by omega) (by omega)) (x := i) (nI_clamp (by omega)) (b := (B i) 0) (refA_at (by omega)) ?_
    refine V_iload_n hC dX8_ofBlock_52 2 rfl ?_
    refine V_iconst hC dX8_ofBlock_53 (v := 2) (by decide) ?_
    refine V_isub hC dX8_ofBlock_54 ?_
    refine V_eqi (y := 3) (by decide) ?_
    refine V_sub [2, 0, 1] (by decide) (u := [famW 6 (fun ι => bkP G (B ι) (bz ι)), [(X 0, .inr (9, [.ref (X 1), .int (nI nb), .ref (X 2), .ref (X 6), .ref (X 8), .ref (X 10), .ref (X 14), .ref (X 18), .int (nI nl), .int du, .ref (X 19), .int mo, .ref (X 20), .int cl]))], [(X 1, .inl (G.2.1 3, 6, .inr (.inr (.inr (.inr (refA 6 B))))))]]) rfl ?_
    refine V_open (i := i) (by omega) ?_
    refine V_calli hC (V_runV hC (rest := []) [.int 3] (k_X0_believed l G (B i) (bz i) 3 3 (by decide) (by decide)) [0] rfl (by decide) q502 q503 q504 q49 q505 ⟨by decide, by decide, rfl⟩ ⟨by decide, by decide⟩ (ci := 1) rfl (mem_at 0 0 rfl rfl) rfl (Nat.le_of_ble_eq_true rfl) ⟨by decide, by decide⟩ dX8_ofBlock_55) (is := [0]) rfl [1, 2, 3] (rs := [famX 6 i (fun ι => bkP G (B ι) (bz ι)), [(X 0, .inr (9, [.ref (X 1), .int (nI nb), .ref (X 2), .ref (X 6), .ref (X 8), .ref (X 10), .ref (X 14), .ref (X 18), .int (nI nl), .int du, .ref (X 19), .int mo, .ref (X 20), .int cl]))], [(X 1, .inl (G.2.1 3, 6, .inr (.inr (.inr (.inr (refA 6 B))))))]]) rfl (by decide) (by decide) ?_
    rintro _ _ ⟨rfl, rfl⟩
    refine V_close (i := i) (g' := fun ι => bkP G (B ι) (bz ι)) (by omega) (rfl) (fun _ _ _ => rfl) ?_
    exact V_xiret hC hQ hr [1, 2, 0] (u := [[(X 0, .inr (9, [.ref (X 1), .int (nI nb), .ref (X 2), .ref (X 6), .ref (X 8), .ref (X 10), .ref (X 14), .ref (X 18), .int (nI nl), .int du, .ref (X 19), .int mo, .ref (X 20), .int cl]))], [(X 1, .inl (G.2.1 3, 6, .inr (.inr (.inr (.inr (refA 6 B))))))], famW 6 (fun ι => bkP G (B ι) (bz ι))]) (by decide) rfl (by decide) (by decide) dX8_ofBlock_58 (⟨i, 5, hi, rfl, by decide, rfl, rfl, rfl⟩)
