/-! ===== numbers; what the small classes compute ===== -/
theorem nle {a b : Nat} (h : nI a ≤ nI b) (ha : a < 2 ^ 31 := by omega) (hb : b < 2 ^ 31 := by omega) : a ≤ b := (nI_leI ha hb).mp h
theorem nnle {a b : Nat} (h : ¬ nI a ≤ nI b) (ha : a < 2 ^ 31 := by omega) (hb : b < 2 ^ 31 := by omega) : b < a := Nat.lt_of_not_le fun q => h ((nI_leI ha hb).mpr q)
theorem nlt {a b : Nat} (h : nI a < nI b) (ha : a < 2 ^ 31 := by omega) (hb : b < 2 ^ 31 := by omega) : a < b := (nI_ltI ha hb).mp h
theorem nnlt {a b : Nat} (h : ¬ nI a < nI b) (ha : a < 2 ^ 31 := by omega) (hb : b < 2 ^ 31 := by omega) : b ≤ a := Nat.le_of_not_lt fun q => h ((nI_ltI ha hb).mpr q)
def mn (x y : Int32) : Int32 := if y < x then y else x
def mx (x y : Int32) : Int32 := if x < y then y else x
def ab (x : Int32) : Int32 := if 0 ≤ x then x else 0 - x
def ixB (x n : Int32) : Int32 := if x < 0 then 0 else if n ≤ x then 0 else 1
theorem ixB_in {i N : Nat} (h : i < N) (hN : N < 2 ^ 31 := by omega) : ixB (nI i) (nI N) = 1 := by
  unfold ixB
  rw [if_neg (nI_pos (by omega)), if_neg (nI_ge h (by omega))]
def bkB (known : Int32) (ox : Nat → Int32) (i : Nat) : Int32 := if known = 0 then tb4 5 2 1 0 i else ox i
def cp6 (f g : Nat → Int32) : Nat → Int32 := upd (upd (upd (upd (upd (upd f 0 (g 0)) 1 (g 1)) 2 (g 2)) 3 (g 3)) 4 (g 4)) 5 (g 5)
def ze6 (f : Nat → Int32) : Nat → Int32 := upd (upd (upd (upd (upd (upd f 0 0) 1 0) 2 0) 3 0) 4 0) 5 0
def tl5 (f : Nat → Int32) (a b c d : Int32) : Nat → Int32 := upd (upd (upd (upd f 0 a) 1 b) 2 c) 3 d
/-- burning: how much is freed, made -/
def bnA (w raw : Int32) : Int32 := if w < 5 then 0 else mn raw (w - 4)
def bnB (w free sand : Int32) : Int32 := if w < 7 then 0 else mn (w - 6) (mn (free / 2) sand)
def bnC (w melt free bel : Int32) : Int32 := if w < 9 then 0 else mn (w - 8 + melt / 4) (mn free bel)
def bnFree1 (w raw free : Int32) : Int32 := free + bnA w raw
def bnB1 (w raw free sand : Int32) : Int32 := bnB w (bnFree1 w raw free) sand
def bnFree2 (w raw free sand : Int32) : Int32 := bnFree1 w raw free - 2 * bnB1 w raw free sand
def bnC1 (w raw free sand bel melt : Int32) : Int32 := bnC w melt (bnFree2 w raw free sand) (bel + bnB1 w raw free sand)
def sm (f : Nat → Int32) : Nat → Int32
  | 0 => 0
  | n + 1 => sm f n + f n
theorem sub0 (x : Int32) : x - 0 = x := by
  rw [Int32.sub_eq_add_neg]; simp
set_option maxHeartbeats 4000000 in
set_option maxRecDepth 100000 in
/-- ClinkerWorks.isIndex -/
theorem c_X8_isIndex (l : Launch) (G : VG) (x n : Int32) : Mi l G yX8_isIndex cX8_isIndex 2 .boolean 0 0 0 0 [.int x, .int n] [] (fun r u => r = ixB x n ∧ u = []) := by
  refine Mi_of (by decide) (Nat.le_of_ble_eq_true rfl) (fun pP eE sS mM aA bB tT cC AA QQ hC hr hnm hQ => ?_)
  refine V_iload_n hC dX8_isIndex_0 0 rfl ?_
  refine V_if_lt hC dX8_isIndex_1 (tgt := 13) (by decide) (fun h1 => ?_) (fun h1 => ?_)
  · refine V_iconst hC dX8_isIndex_13 (v := 0) (by decide) ?_
    exact V_zret hC hQ hr (by decide) [] (u := []) (by decide) rfl (by decide) (by decide) dX8_isIndex_14 (⟨by unfold ixB; (repeat' split) <;> simp only [Int32.lt_iff_toInt_lt, Int32.le_iff_toInt_le, Int32.not_lt, Int32.not_le] at * <;> first | rfl | (exfalso; omega), rfl⟩)
  · refine V_iload_n hC dX8_isIndex_4 0 rfl ?_
    refine V_iload_n hC dX8_isIndex_5 1 rfl ?_
    refine V_icmp_ge hC dX8_isIndex_6 (tgt := 13) (by decide) (fun h2 => ?_) (fun h2 => ?_)
    · refine V_iconst hC dX8_isIndex_13 (v := 0) (by decide) ?_
      exact V_zret hC hQ hr (by decide) [] (u := []) (by decide) rfl (by decide) (by decide) dX8_isIndex_14 (⟨by unfold ixB; (repeat' split) <;> simp only [Int32.lt_iff_toInt_lt, Int32.le_iff_toInt_le, Int32.not_lt, Int32.not_le] at * <;> first | rfl | (exfalso; omega), rfl⟩)
    · refine V_iconst hC dX8_isIndex_9 (v := 1) (by decide) ?_
      refine V_goto hC dX8_isIndex_10 (tgt := 14) (by decide) ?_
      exact V_zret hC hQ hr (by decide) [] (u := []) (by decide) rfl (by decide) (by decide) dX8_isIndex_14 (⟨by unfold ixB; (repeat' split) <;> simp only [Int32.lt_iff_toInt_lt, Int32.le_iff_toInt_le, Int32.not_lt, Int32.not_le] at * <;> first | rfl | (exfalso; omega), rfl⟩)
set_option maxHeartbeats 4000000 in
set_option maxRecDepth 100000 in
/-- ClinkerWorks$Block.<init> -/
theorem c_X0_init (l : Launch) (G : VG) (a : Nat) : Mv l G yX0_init cX0_init 1 1 12 1 4 [.ref a] [[(a, .inr (1, [.int 0, .int 0, .null]))]] (fun u => ∃ ox : Nat, u = [[(a, .inr (1, [.int 0, .int 0, .ref ox]))], [(ox, .inl (G.2.1 0, 4, .inl (fun _ => 0)))]]) := by
  refine Mv_of (by decide) (Nat.le_of_ble_eq_true rfl) (fun pP eE sS mM aA bB tT cC AA QQ hC hr hnm hQ => ?_)
  refine V_aload_n hC dX0_init_0 0 rfl ?_
  refine V_objInit hC q208 q43 q44 dX0_init_1 (by decide) (Nat.le_of_ble_eq_true rfl) ?_
  refine V_aload_n hC dX0_init_4 0 rfl ?_
  refine V_iconst hC dX0_init_5 (v := 0) (by decide) ?_
  refine V_put hC dX0_init_6 inAX0 tyX0 tyX0_ok nmX0 0 0 rfl rfl rfl 0 (by decide) q209 rfl rfl (rfl) (rfl) (Nat.le_of_ble_eq_true rfl) (ps' := [[(a, .inr (1, [.int 0, .int 0, .null]))]]) rfl ?_
  refine V_aload_n hC dX0_init_9 0 rfl ?_
  refine V_iconst hC dX0_init_10 (v := 0) (by decide) ?_
  refine V_put hC dX0_init_11 inAX0 tyX0 tyX0_ok nmX0 0 0 rfl rfl rfl 1 (by decide) q211 rfl rfl (rfl) (rfl) (Nat.le_of_ble_eq_true rfl) (ps' := [[(a, .inr (1, [.int 0, .int 0, .null]))]]) rfl ?_
  refine V_aload_n hC dX0_init_14 0 rfl ?_
  refine V_iconst hC dX0_init_15 (v := 4) (by decide) ?_
  refine V_newa_i hC q70 (N := 4) (by decide) (by decide) (by decide) (by decide) (by decide) dX0_init_16 (fun q1 => ?_)
  refine V_putF hC dX0_init_18 inAX0 tyX0 tyX0_ok nmX0 0 0 rfl rfl rfl 2 (by decide) q213 rfl rfl hnm rfl (rfl) (rfl) (Nat.le_of_ble_eq_true rfl) (ps' := [[(a, .inr (1, [.int 0, .int 0, .ref q1]))], [(q1, .inl (G.2.1 0, 4, .inl (fun _ => 0)))]]) rfl ?_
  exact V_vret hC hQ hr [0, 1] (u := [[(a, .inr (1, [.int 0, .int 0, .ref q1]))], [(q1, .inl (G.2.1 0, 4, .inl (fun _ => 0)))]]) (by decide) rfl (by decide) (by decide) dX0_init_21 (⟨_, rfl⟩)
set_option maxHeartbeats 4000000 in
set_option maxRecDepth 100000 in
/-- ClinkerWorks$Block.tell -/
theorem c_X0_tell (l : Launch) (G : VG) (a : Nat) (sto kno : Int32) (ox : Nat) (f : Nat → Int32) (s0 v0 v1 v2 v3 : Int32) : Mv l G yX0_tell cX0_tell 6 0 0 0 0 [.ref a, .int s0, .int v0, .int v1, .int v2, .int v3] [[(a, .inr (1, [.int sto, .int kno, .ref ox]))], [(ox, .inl (G.2.1 0, 4, .inl f))]] (fun u => u = [[(a, .inr (1, [.int s0, .int kno, .ref ox]))], [(ox, .inl (G.2.1 0, 4, .inl (tl5 f v0 v1 v2 v3)))]]) := by
  refine Mv_of (by decide) (Nat.le_of_ble_eq_true rfl) (fun pP eE sS mM aA bB tT cC AA QQ hC hr hnm hQ => ?_)
  refine V_aload_n hC dX0_tell_0 0 rfl ?_
  refine V_iload_n hC dX0_tell_1 1 rfl ?_
  refine V_put hC dX0_tell_2 inAX0 tyX0 tyX0_ok nmX0 0 0 rfl rfl rfl 0 (by decide) q209 rfl rfl (rfl) (rfl) (Nat.le_of_ble_eq_true rfl) (ps' := [[(a, .inr (1, [.int s0, .int kno, .ref ox]))], [(ox, .inl (G.2.1 0, 4, .inl f))]]) rfl ?_
  refine V_aload_n hC dX0_tell_5 0 rfl ?_
  refine V_get hC dX0_tell_6 inAX0 (mem_at 0 0 rfl rfl) rfl 2 (by decide) q213 rfl (v := .ref ox) rfl ?_
  refine V_iconst hC dX0_tell_9 (v := 0) (by decide) ?_
  refine V_iload_n hC dX0_tell_10 2 rfl ?_
  refine V_iast hC dX0_tell_11 1 0 rfl rfl (vin (by decide)) (z := 0) (by decide) (ps' := [[(a, .inr (1, [.int s0, .int kno, .ref ox]))], [(ox, .inl (G.2.1 0, 4, .inl (upd f 0 v0)))]]) rfl ?_
  refine V_aload_n hC dX0_tell_12 0 rfl ?_
  refine V_get hC dX0_tell_13 inAX0 (mem_at 0 0 rfl rfl) rfl 2 (by decide) q213 rfl (v := .ref ox) rfl ?_
  refine V_iconst hC dX0_tell_16 (v := 1) (by decide) ?_
  refine V_iload_n hC dX0_tell_17 3 rfl ?_
  refine V_iast hC dX0_tell_18 1 0 rfl rfl (vin (by decide)) (z := 1) (by decide) (ps' := [[(a, .inr (1, [.int s0, .int kno, .ref ox]))], [(ox, .inl (G.2.1 0, 4, .inl (upd (upd f 0 v0) 1 v1)))]]) rfl ?_
  refine V_aload_n hC dX0_tell_19 0 rfl ?_
  refine V_get hC dX0_tell_20 inAX0 (mem_at 0 0 rfl rfl) rfl 2 (by decide) q213 rfl (v := .ref ox) rfl ?_
  refine V_iconst hC dX0_tell_23 (v := 2) (by decide) ?_
  refine V_iload hC dX0_tell_24 4 rfl ?_
  refine V_iast hC dX0_tell_26 1 0 rfl rfl (vin (by decide)) (z := 2) (by decide) (ps' := [[(a, .inr (1, [.int s0, .int kno, .ref ox]))], [(ox, .inl (G.2.1 0, 4, .inl (upd (upd (upd f 0 v0) 1 v1) 2 v2)))]]) rfl ?_
  refine V_aload_n hC dX0_tell_27 0 rfl ?_
  refine V_get hC dX0_tell_28 inAX0 (mem_at 0 0 rfl rfl) rfl 2 (by decide) q213 rfl (v := .ref ox) rfl ?_
  refine V_iconst hC dX0_tell_31 (v := 3) (by decide) ?_
  refine V_iload hC dX0_tell_32 5 rfl ?_
  refine V_iast hC dX0_tell_34 1 0 rfl rfl (vin (by decide)) (z := 3) (by decide) (ps' := [[(a, .inr (1, [.int s0, .int kno, .ref ox]))], [(ox, .inl (G.2.1 0, 4, .inl (upd (upd (upd (upd f 0 v0) 1 v1) 2 v2) 3 v3)))]]) rfl ?_
  exact V_vret hC hQ hr [0, 1] (u := [[(a, .inr (1, [.int s0, .int kno, .ref ox]))], [(ox, .inl (G.2.1 0, 4, .inl (upd (upd (upd (upd f 0 v0) 1 v1) 2 v2) 3 v3)))]]) (by decide) rfl (by decide) (by decide) dX0_tell_35 (rfl)
set_option maxHeartbeats 4000000 in
set_option maxRecDepth 100000 in
/-- ClinkerWorks$Block.believed -/
theorem c_X0_believed (l : Launch) (G : VG) (a : Nat) (sto kno : Int32) (ox : Nat) (f : Nat → Int32) (o : Int32) (i : Nat) (hi : i < 4) (ho : o = nI i) : Mi l G yX0_believed cX0_believed 2 .int 1 21 0 0 [.ref a, .int o] [[(a, .inr (1, [.int sto, .int kno, .ref ox]))], [(ox, .inl (G.2.1 0, 4, .inl f))]] (fun r u => r = bkB kno f i ∧ u = [[(a, .inr (1, [.int sto, .int kno, .ref ox]))], [(ox, .inl (G.2.1 0, 4, .inl f))]]) := by
  refine Mi_of (by decide) (Nat.le_of_ble_eq_true rfl) (fun pP eE sS mM aA bB tT cC AA QQ hC hr hnm hQ => ?_)
  subst ho
  refine V_iload_n hC dX0_believed_0 1 rfl ?_
  refine V_iconst hC dX0_believed_1 (v := 4) (by decide) ?_
  refine V_calli hC (V_runSN hC (rest := []) (host := "ClinkerWorks") [.int (nI i), .int 4] (c_X8_isIndex l G (nI i) 4) [] rfl (by decide) (nest_mem (by decide +kernel)) q435 q20 q436 ⟨by decide, by decide, rfl⟩ ⟨by decide, by decide⟩ rfl (Nat.le_of_ble_eq_true rfl) ⟨by decide, by decide⟩ dX0_believed_2) (is := []) rfl [0, 1] (rs := [[(a, .inr (1, [.int sto, .int kno, .ref ox]))], [(ox, .inl (G.2.1 0, 4, .inl f))]]) rfl (by decide) (by decide) ?_
  rintro _ _ ⟨rfl, rfl⟩
  refine V_eqi (y := 1) (ixB_in (N := 4) hi) ?_
  refine V_if_neT hC dX0_believed_5 (tgt := 10) (by decide) (by decide) ?_
  refine V_aload_n hC dX0_believed_10 0 rfl ?_
  refine V_get hC dX0_believed_11 inAX0 (mem_at 0 0 rfl rfl) rfl 1 (by decide) q211 rfl (v := .int kno) rfl ?_
  refine V_if_eq hC dX0_believed_14 (tgt := 26) (by decide) (fun h1 => ?_) (fun h1 => ?_)
  · refine V_gets hC dX0_believed_26 hC.sT.1 q446 rfl ?_
    refine V_iload_n hC dX0_believed_29 1 rfl ?_
    refine V_tild hC dX0_believed_30 hC.sT.1 (vp_in_nI (by omega) (by omega)) (x := i) (nI_clamp (by omega)) ?_
    exact V_iret hC hQ hr [0, 1] (u := [[(a, .inr (1, [.int sto, .int kno, .ref ox]))], [(ox, .inl (G.2.1 0, 4, .inl f))]]) (by decide) rfl (by decide) (by decide) dX0_believed_31 (⟨by simp [bkB, *], rfl⟩)
  · refine V_aload_n hC dX0_believed_17 0 rfl ?_
    refine V_get hC dX0_believed_18 inAX0 (mem_at 0 0 rfl rfl) rfl 2 (by decide) q213 rfl (v := .ref ox) rfl ?_
    refine V_iload_n hC dX0_believed_21 1 rfl ?_
    refine V_iald hC dX0_believed_22 (mem_at 1 0 rfl rfl) (vp_in_nI (by omega) (by omega)) (x := i) (nI_clamp (by omega)) ?_
    refine V_goto hC dX0_believed_23 (tgt := 31) (by decide) ?_
    exact V_iret hC hQ hr [0, 1] (u := [[(a, .inr (1, [.int sto, .int kno, .ref ox]))], [(ox, .inl (G.2.1 0, 4, .inl f))]]) (by decide) rfl (by decide) (by decide) dX0_believed_31 (⟨by simp [bkB, *], rfl⟩)
set_option maxHeartbeats 4000000 in
set_option maxRecDepth 100000 in
/-- ClinkerWorks$Mix.<init> -/
theorem c_X4_init (l : Launch) (G : VG) (a : Nat) : Mv l G yX4_init cX4_init 1 1 12 1 4 [.ref a] [[(a, .inr (5, [.null]))]] (fun u => ∃ am : Nat, u = [[(a, .inr (5, [.ref am]))], [(am, .inl (G.2.1 0, 4, .inl (fun _ => 0)))]]) := by
  refine Mv_of (by decide) (Nat.le_of_ble_eq_true rfl) (fun pP eE sS mM aA bB tT cC AA QQ hC hr hnm hQ => ?_)
  refine V_aload_n hC dX4_init_0 0 rfl ?_
  refine V_objInit hC q76 q43 q44 dX4_init_1 (by decide) (Nat.le_of_ble_eq_true rfl) ?_
  refine V_aload_n hC dX4_init_4 0 rfl ?_
  refine V_iconst hC dX4_init_5 (v := 4) (by decide) ?_
  refine V_newa_i hC q70 (N := 4) (by decide) (by decide) (by decide) (by decide) (by decide) dX4_init_6 (fun q1 => ?_)
  refine V_putF hC dX4_init_8 inAX4 tyX4 tyX4_ok nmX4 0 0 rfl rfl rfl 0 (by decide) q77 rfl rfl hnm rfl (rfl) (rfl) (Nat.le_of_ble_eq_true rfl) (ps' := [[(a, .inr (5, [.ref q1]))], [(q1, .inl (G.2.1 0, 4, .inl (fun _ => 0)))]]) rfl ?_
  exact V_vret hC hQ hr [0, 1] (u := [[(a, .inr (5, [.ref q1]))], [(q1, .inl (G.2.1 0, 4, .inl (fun _ => 0)))]]) (by decide) rfl (by decide) (by decide) dX4_init_11 (⟨_, rfl⟩)
set_option maxHeartbeats 4000000 in
set_option maxRecDepth 100000 in
/-- ClinkerWorks$Mix.addStone -/
theorem c_X4_addStone (l : Launch) (G : VG) (a am : Nat) (f : Nat → Int32) (b : Nat) (sto kno : Int32) (ox : Nat) (g : Nat → Int32) (x : Int32) : Mv l G yX4_addStone cX4_addStone 4 2 42 0 0 [.ref a, .ref b, .int x] [[(a, .inr (5, [.ref am]))], [(am, .inl (G.2.1 0, 4, .inl f))], [(b, .inr (1, [.int sto, .int kno, .ref ox]))], [(ox, .inl (G.2.1 0, 4, .inl g))]] (fun u => u = [[(a, .inr (5, [.ref am]))], [(am, .inl (G.2.1 0, 4, .inl (mxStone f (bkB kno g) x)))], [(b, .inr (1, [.int sto, .int kno, .ref ox]))], [(ox, .inl (G.2.1 0, 4, .inl g))]]) := by
  refine Mv_of (by decide) (Nat.le_of_ble_eq_true rfl) (fun pP eE sS mM aA bB tT cC AA QQ hC hr hnm hQ => ?_)
  refine V_iconst hC dX4_addStone_0 (v := 0) (by decide) ?_
  refine V_istore_n hC dX4_addStone_1 (L' := [(3, .int 0), (0, .ref a), (1, .ref b), (2, .int x)]) (by decide) rfl ?_
  refine V_iload_n hC dX4_addStone_2 0 rfl ?_
  refine V_iconst hC dX4_addStone_3 (v := 4) (by decide) ?_
  refine V_icmp_geF hC dX4_addStone_4 (tgt := 29) (by decide) (by decide) ?_
  refine V_aload_n hC dX4_addStone_7 1 rfl ?_
  refine V_get hC dX4_addStone_8 inAX4 (mem_at 0 0 rfl rfl) rfl 0 (by decide) q77 rfl (v := .ref am) rfl ?_
  refine V_iload_n hC dX4_addStone_11 0 rfl ?_
  refine V_dup2 hC dX4_addStone_12 rfl rfl ?_
  refine V_iald hC dX4_addStone_13 (mem_at 1 0 rfl rfl) (vin (by decide)) (x := 0) (by decide) ?_
  refine V_iload_n hC dX4_addStone_14 3 rfl ?_
  refine V_aload_n hC dX4_addStone_15 2 rfl ?_
  refine V_iload_n hC dX4_addStone_16 0 rfl ?_
  refine V_calli hC (V_runV hC (rest := [.int x, .int (f 0), .int 0, .ref am]) [.int 0] (c_X0_believed l G b sto kno ox g 0 0 (by decide) (by decide)) [2, 3] rfl (by decide) q441 q442 q443 q26 q444 ⟨by decide, by decide, rfl⟩ ⟨by decide, by decide⟩ (ci := 1) rfl (mem_at 2 0 rfl rfl) rfl (Nat.le_of_ble_eq_true rfl) ⟨by decide, by decide⟩ dX4_addStone_17) (is := [2, 3]) rfl [0, 1] (rs := [[(a, .inr (5, [.ref am]))], [(am, .inl (G.2.1 0, 4, .inl f))]]) rfl (by decide) (by decide) ?_
  rintro _ _ ⟨rfl, rfl⟩
  refine V_imul hC dX4_addStone_20 ?_
  refine V_iadd hC dX4_addStone_21 ?_
  refine V_iast hC dX4_addStone_22 3 0 rfl rfl (vin (by decide)) (z := 0) (by decide) (ps' := [[(b, .inr (1, [.int sto, .int kno, .ref ox]))], [(ox, .inl (G.2.1 0, 4, .inl g))], [(a, .inr (5, [.ref am]))], [(am, .inl (G.2.1 0, 4, .inl (upd f 0 ((f 0) + (x * (bkB kno g 0))))))]]) rfl ?_
  refine V_iinc hC dX4_addStone_23 (v := 1) (L' := [(3, .int 1), (0, .ref a), (1, .ref b), (2, .int x)]) (j := 0) rfl (by decide) (by decide) rfl ?_
  refine V_goto hC dX4_addStone_26 (tgt := 2) (by decide) ?_
  refine V_iload_n hC dX4_addStone_2 0 rfl ?_
  refine V_iconst hC dX4_addStone_3 (v := 4) (by decide) ?_
  refine V_icmp_geF hC dX4_addStone_4 (tgt := 29) (by decide) (by decide) ?_
  refine V_aload_n hC dX4_addStone_7 1 rfl ?_
  refine V_get hC dX4_addStone_8 inAX4 (mem_at 2 0 rfl rfl) rfl 0 (by decide) q77 rfl (v := .ref am) rfl ?_
  refine V_iload_n hC dX4_addStone_11 0 rfl ?_
  refine V_dup2 hC dX4_addStone_12 rfl rfl ?_
  refine V_iald hC dX4_addStone_13 (mem_at 3 0 rfl rfl) (vin (by decide)) (x := 1) (by decide) ?_
  refine V_iload_n hC dX4_addStone_14 3 rfl ?_
  refine V_aload_n hC dX4_addStone_15 2 rfl ?_
  refine V_iload_n hC dX4_addStone_16 0 rfl ?_
  refine V_calli hC (V_runV hC (rest := [.int x, .int (f 1), .int 1, .ref am]) [.int 1] (c_X0_believed l G b sto kno ox g 1 1 (by decide) (by decide)) [0, 1] rfl (by decide) q441 q442 q443 q26 q444 ⟨by decide, by decide, rfl⟩ ⟨by decide, by decide⟩ (ci := 1) rfl (mem_at 0 0 rfl rfl) rfl (Nat.le_of_ble_eq_true rfl) ⟨by decide, by decide⟩ dX4_addStone_17) (is := [0, 1]) rfl [2, 3] (rs := [[(a, .inr (5, [.ref am]))], [(am, .inl (G.2.1 0, 4, .inl (upd f 0 ((f 0) + (x * (bkB kno g 0))))))]]) rfl (by decide) (by decide) ?_
  rintro _ _ ⟨rfl, rfl⟩
  refine V_imul hC dX4_addStone_20 ?_
  refine V_iadd hC dX4_addStone_21 ?_
  refine V_iast hC dX4_addStone_22 3 0 rfl rfl (vin (by decide)) (z := 1) (by decide) (ps' := [[(b, .inr (1, [.int sto, .int kno, .ref ox]))], [(ox, .inl (G.2.1 0, 4, .inl g))], [(a, .inr (5, [.ref am]))], [(am, .inl (G.2.1 0, 4, .inl (upd (upd f 0 ((f 0) + (x * (bkB kno g 0)))) 1 ((f 1) + (x * (bkB kno g 1))))))]]) rfl ?_
  refine V_iinc hC dX4_addStone_23 (v := 2) (L' := [(3, .int 2), (0, .ref a), (1, .ref b), (2, .int x)]) (j := 0) rfl (by decide) (by decide) rfl ?_
  refine V_goto hC dX4_addStone_26 (tgt := 2) (by decide) ?_
  refine V_iload_n hC dX4_addStone_2 0 rfl ?_
  refine V_iconst hC dX4_addStone_3 (v := 4) (by decide) ?_
  refine V_icmp_geF hC dX4_addStone_4 (tgt := 29) (by decide) (by decide) ?_
  refine V_aload_n hC dX4_addStone_7 1 rfl ?_
  refine V_get hC dX4_addStone_8 inAX4 (mem_at 2 0 rfl rfl) rfl 0 (by decide) q77 rfl (v := .ref am) rfl ?_
  refine V_iload_n hC dX4_addStone_11 0 rfl ?_
  refine V_dup2 hC dX4_addStone_12 rfl rfl ?_
  refine V_iald hC dX4_addStone_13 (mem_at 3 0 rfl rfl) (vin (by decide)) (x := 2) (by decide) ?_
  refine V_iload_n hC dX4_addStone_14 3 rfl ?_
  refine V_aload_n hC dX4_addStone_15 2 rfl ?_
  refine V_iload_n hC dX4_addStone_16 0 rfl ?_
  refine V_calli hC (V_runV hC (rest := [.int x, .int (f 2), .int 2, .ref am]) [.int 2] (c_X0_believed l G b sto kno ox g 2 2 (by decide) (by decide)) [0, 1] rfl (by decide) q441 q442 q443 q26 q444 ⟨by decide, by decide, rfl⟩ ⟨by decide, by decide⟩ (ci := 1) rfl (mem_at 0 0 rfl rfl) rfl (Nat.le_of_ble_eq_true rfl) ⟨by decide, by decide⟩ dX4_addStone_17) (is := [0, 1]) rfl [2, 3] (rs := [[(a, .inr (5, [.ref am]))], [(am, .inl (G.2.1 0, 4, .inl (upd (upd f 0 ((f 0) + (x * (bkB kno g 0)))) 1 ((f 1) + (x * (bkB kno g 1))))))]]) rfl (by decide) (by decide) ?_
  rintro _ _ ⟨rfl, rfl⟩
  refine V_imul hC dX4_addStone_20 ?_
  refine V_iadd hC dX4_addStone_21 ?_
  refine V_iast hC dX4_addStone_22 3 0 rfl rfl (vin (by decide)) (z := 2) (by decide) (ps' := [[(b, .inr (1, [.int sto, .int kno, .ref ox]))], [(ox, .inl (G.2.1 0, 4, .inl g))], [(a, .inr (5, [.ref am]))], [(am, .inl (G.2.1 0, 4, .inl (upd (upd (upd f 0 ((f 0) + (x * (bkB kno g 0)))) 1 ((f 1) + (x * (bkB kno g 1)))) 2 ((f 2) + (x * (bkB kno g 2))))))]]) rfl ?_
  refine V_iinc hC dX4_addStone_23 (v := 3) (L' := [(3, .int 3), (0, .ref a), (1, .ref b), (2, .int x)]) (j := 0) rfl (by decide) (by decide) rfl ?_
  refine V_goto hC dX4_addStone_26 (tgt := 2) (by decide) ?_
  refine V_iload_n hC dX4_addStone_2 0 rfl ?_
  refine V_iconst hC dX4_addStone_3 (v := 4) (by decide) ?_
  refine V_icmp_geF hC dX4_addStone_4 (tgt := 29) (by decide) (by decide) ?_
  refine V_aload_n hC dX4_addStone_7 1 rfl ?_
  refine V_get hC dX4_addStone_8 inAX4 (mem_at 2 0 rfl rfl) rfl 0 (by decide) q77 rfl (v := .ref am) rfl ?_
  refine V_iload_n hC dX4_addStone_11 0 rfl ?_
  refine V_dup2 hC dX4_addStone_12 rfl rfl ?_
  refine V_iald hC dX4_addStone_13 (mem_at 3 0 rfl rfl) (vin (by decide)) (x := 3) (by decide) ?_
  refine V_iload_n hC dX4_addStone_14 3 rfl ?_
  refine V_aload_n hC dX4_addStone_15 2 rfl ?_
  refine V_iload_n hC dX4_addStone_16 0 rfl ?_
  refine V_calli hC (V_runV hC (rest := [.int x, .int (f 3), .int 3, .ref am]) [.int 3] (c_X0_believed l G b sto kno ox g 3 3 (by decide) (by decide)) [0, 1] rfl (by decide) q441 q442 q443 q26 q444 ⟨by decide, by decide, rfl⟩ ⟨by decide, by decide⟩ (ci := 1) rfl (mem_at 0 0 rfl rfl) rfl (Nat.le_of_ble_eq_true rfl) ⟨by decide, by decide⟩ dX4_addStone_17) (is := [0, 1]) rfl [2, 3] (rs := [[(a, .inr (5, [.ref am]))], [(am, .inl (G.2.1 0, 4, .inl (upd (upd (upd f 0 ((f 0) + (x * (bkB kno g 0)))) 1 ((f 1) + (x * (bkB kno g 1)))) 2 ((f 2) + (x * (bkB kno g 2))))))]]) rfl (by decide) (by decide) ?_
  rintro _ _ ⟨rfl, rfl⟩
  refine V_imul hC dX4_addStone_20 ?_
  refine V_iadd hC dX4_addStone_21 ?_
  refine V_iast hC dX4_addStone_22 3 0 rfl rfl (vin (by decide)) (z := 3) (by decide) (ps' := [[(b, .inr (1, [.int sto, .int kno, .ref ox]))], [(ox, .inl (G.2.1 0, 4, .inl g))], [(a, .inr (5, [.ref am]))], [(am, .inl (G.2.1 0, 4, .inl (upd (upd (upd (upd f 0 ((f 0) + (x * (bkB kno g 0)))) 1 ((f 1) + (x * (bkB kno g 1)))) 2 ((f 2) + (x * (bkB kno g 2)))) 3 ((f 3) + (x * (bkB kno g 3))))))]]) rfl ?_
  refine V_iinc hC dX4_addStone_23 (v := 4) (L' := [(3, .int 4), (0, .ref a), (1, .ref b), (2, .int x)]) (j := 0) rfl (by decide) (by decide) rfl ?_
  refine V_goto hC dX4_addStone_26 (tgt := 2) (by decide) ?_
  refine V_iload_n hC dX4_addStone_2 0 rfl ?_
  refine V_iconst hC dX4_addStone_3 (v := 4) (by decide) ?_
  refine V_icmp_geT hC dX4_addStone_4 (tgt := 29) (by decide) (by decide) ?_
  exact V_vret hC hQ hr [2, 3, 0, 1] (u := [[(a, .inr (5, [.ref am]))], [(am, .inl (G.2.1 0, 4, .inl (upd (upd (upd (upd f 0 ((f 0) + (x * (bkB kno g 0)))) 1 ((f 1) + (x * (bkB kno g 1)))) 2 ((f 2) + (x * (bkB kno g 2)))) 3 ((f 3) + (x * (bkB kno g 3))))))], [(b, .inr (1, [.int sto, .int kno, .ref ox]))], [(ox, .inl (G.2.1 0, 4, .inl g))]]) (by decide) rfl (by decide) (by decide) dX4_addStone_29 (rfl)
set_option maxHeartbeats 4000000 in
set_option maxRecDepth 100000 in
/-- ClinkerWorks$Charge.<init> -/
theorem c_X1_init (l : Launch) (G : VG) (a : Nat) : Mv l G yX1_init cX1_init 1 2 32 3 11 [.ref a] [[(a, .inr (2, [.int 0, .null, .null, .int 0, .int 0, .int 0, .int 0, .int 0]))]] (fun u => ∃ mi pb am : Nat, u = [[(a, .inr (2, [.int 0, .ref mi, .ref pb, .int 0, .int 0, .int 0, .int 0, .int 0]))], [(mi, .inr (5, [.ref am]))], [(am, .inl (G.2.1 0, 4, .inl (fun _ => 0)))], [(pb, .inl (G.2.1 0, 6, .inl (fun _ => 0)))]]) := by
  refine Mv_of (by decide) (Nat.le_of_ble_eq_true rfl) (fun pP eE sS mM aA bB tT cC AA QQ hC hr hnm hQ => ?_)
  refine V_aload_n hC dX1_init_0 0 rfl ?_
  refine V_objInit hC q95 q43 q44 dX1_init_1 (by decide) (Nat.le_of_ble_eq_true rfl) ?_
  refine V_aload_n hC dX1_init_4 0 rfl ?_
  refine V_iconst hC dX1_init_5 (v := 0) (by decide) ?_
  refine V_put hC dX1_init_6 inAX1 tyX1 tyX1_ok nmX1 0 0 rfl rfl rfl 0 (by decide) q98 rfl rfl (rfl) (rfl) (Nat.le_of_ble_eq_true rfl) (ps' := [[(a, .inr (2, [.int 0, .null, .null, .int 0, .int 0, .int 0, .int 0, .int 0]))]]) rfl ?_
  refine V_aload_n hC dX1_init_9 0 rfl ?_
  refine V_new hC inAX4 tyX4 tyX4_ok (ci := 5) rfl q96 q72 q22 (fs := [.null]) (by decide +kernel) (by decide) (by decide) dX1_init_10 (fun q1 => ?_)
  refine V_dup hC dX1_init_13 rfl ?_
  refine V_callv hC (V_runIN hC (rest := [.ref q1, .ref a]) (host := "ClinkerWorks") [] (c_X4_init l G q1) [1] rfl (by decide) (nest_mem (by decide +kernel)) q74 q22 q75 rfl ⟨by decide, by decide, rfl⟩ ⟨by decide, by decide⟩ rfl (Nat.le_of_ble_eq_true rfl) ⟨by decide, by decide⟩ dX1_init_14) (is := [1]) rfl [0] (rs := [[(a, .inr (2, [.int 0, .null, .null, .int 0, .int 0, .int 0, .int 0, .int 0]))]]) rfl (by decide) (by decide) ?_
  rintro _ ⟨am2, rfl⟩
  refine V_putF hC dX1_init_17 inAX1 tyX1 tyX1_ok nmX1 2 0 rfl rfl rfl 1 (by decide) q101 rfl rfl hnm rfl (rfl) (rfl) (Nat.le_of_ble_eq_true rfl) (ps' := [[(q1, .inr (5, [.ref am2]))], [(am2, .inl (G.2.1 0, 4, .inl (fun _ => 0)))], [(a, .inr (2, [.int 0, .ref q1, .null, .int 0, .int 0, .int 0, .int 0, .int 0]))]]) rfl ?_
  refine V_aload_n hC dX1_init_20 0 rfl ?_
  refine V_bipush hC dX1_init_21 (v := 6) (by decide) ?_
  refine V_newa_i hC q70 (N := 6) (by decide) (by decide) (by decide) (by decide) (by decide) dX1_init_23 (fun q3 => ?_)
  refine V_putF hC dX1_init_25 inAX1 tyX1 tyX1_ok nmX1 2 0 rfl rfl rfl 2 (by decide) q103 rfl rfl hnm rfl (rfl) (rfl) (Nat.le_of_ble_eq_true rfl) (ps' := [[(q1, .inr (5, [.ref am2]))], [(am2, .inl (G.2.1 0, 4, .inl (fun _ => 0)))], [(a, .inr (2, [.int 0, .ref q1, .ref q3, .int 0, .int 0, .int 0, .int 0, .int 0]))], [(q3, .inl (G.2.1 0, 6, .inl (fun _ => 0)))]]) rfl ?_
  refine V_aload_n hC dX1_init_28 0 rfl ?_
  refine V_iconst hC dX1_init_29 (v := 0) (by decide) ?_
  refine V_put hC dX1_init_30 inAX1 tyX1 tyX1_ok nmX1 2 0 rfl rfl rfl 3 (by decide) q105 rfl rfl (rfl) (rfl) (Nat.le_of_ble_eq_true rfl) (ps' := [[(q1, .inr (5, [.ref am2]))], [(am2, .inl (G.2.1 0, 4, .inl (fun _ => 0)))], [(a, .inr (2, [.int 0, .ref q1, .ref q3, .int 0, .int 0, .int 0, .int 0, .int 0]))], [(q3, .inl (G.2.1 0, 6, .inl (fun _ => 0)))]]) rfl ?_
  refine V_aload_n hC dX1_init_33 0 rfl ?_
  refine V_iconst hC dX1_init_34 (v := 0) (by decide) ?_
  refine V_put hC dX1_init_35 inAX1 tyX1 tyX1_ok nmX1 2 0 rfl rfl rfl 4 (by decide) q108 rfl rfl (rfl) (rfl) (Nat.le_of_ble_eq_true rfl) (ps' := [[(q1, .inr (5, [.ref am2]))], [(am2, .inl (G.2.1 0, 4, .inl (fun _ => 0)))], [(a, .inr (2, [.int 0, .ref q1, .ref q3, .int 0, .int 0, .int 0, .int 0, .int 0]))], [(q3, .inl (G.2.1 0, 6, .inl (fun _ => 0)))]]) rfl ?_
  refine V_aload_n hC dX1_init_38 0 rfl ?_
  refine V_iconst hC dX1_init_39 (v := 0) (by decide) ?_
  refine V_put hC dX1_init_40 inAX1 tyX1 tyX1_ok nmX1 2 0 rfl rfl rfl 5 (by decide) q110 rfl rfl (rfl) (rfl) (Nat.le_of_ble_eq_true rfl) (ps' := [[(q1, .inr (5, [.ref am2]))], [(am2, .inl (G.2.1 0, 4, .inl (fun _ => 0)))], [(a, .inr (2, [.int 0, .ref q1, .ref q3, .int 0, .int 0, .int 0, .int 0, .int 0]))], [(q3, .inl (G.2.1 0, 6, .inl (fun _ => 0)))]]) rfl ?_
  refine V_aload_n hC dX1_init_43 0 rfl ?_
  refine V_iconst hC dX1_init_44 (v := 0) (by decide) ?_
  refine V_put hC dX1_init_45 inAX1 tyX1 tyX1_ok nmX1 2 0 rfl rfl rfl 6 (by decide) q112 rfl rfl (rfl) (rfl) (Nat.le_of_ble_eq_true rfl) (ps' := [[(q1, .inr (5, [.ref am2]))], [(am2, .inl (G.2.1 0, 4, .inl (fun _ => 0)))], [(a, .inr (2, [.int 0, .ref q1, .ref q3, .int 0, .int 0, .int 0, .int 0, .int 0]))], [(q3, .inl (G.2.1 0, 6, .inl (fun _ => 0)))]]) rfl ?_
  refine V_aload_n hC dX1_init_48 0 rfl ?_
  refine V_iconst hC dX1_init_49 (v := 0) (by decide) ?_
  refine V_put hC dX1_init_50 inAX1 tyX1 tyX1_ok nmX1 2 0 rfl rfl rfl 7 (by decide) q114 rfl rfl (rfl) (rfl) (Nat.le_of_ble_eq_true rfl) (ps' := [[(q1, .inr (5, [.ref am2]))], [(am2, .inl (G.2.1 0, 4, .inl (fun _ => 0)))], [(a, .inr (2, [.int 0, .ref q1, .ref q3, .int 0, .int 0, .int 0, .int 0, .int 0]))], [(q3, .inl (G.2.1 0, 6, .inl (fun _ => 0)))]]) rfl ?_
  exact V_vret hC hQ hr [2, 0, 1, 3] (u := [[(a, .inr (2, [.int 0, .ref q1, .ref q3, .int 0, .int 0, .int 0, .int 0, .int 0]))], [(q1, .inr (5, [.ref am2]))], [(am2, .inl (G.2.1 0, 4, .inl (fun _ => 0)))], [(q3, .inl (G.2.1 0, 6, .inl (fun _ => 0)))]]) (by decide) rfl (by decide) (by decide) dX1_init_53 (⟨_, _, _, rfl⟩)
set_option maxHeartbeats 4000000 in
set_option maxRecDepth 100000 in
/-- ClinkerWorks$Charge.begin -/
theorem c_X1_begin (l : Launch) (G : VG) (a mi pb am : Nat) (pr raw fre sand bel al : Int32) (f g : Nat → Int32) (b bm : Nat) (h : Nat → Int32) : Mv l G yX1_begin cX1_begin 3 1 22 0 0 [.ref a, .ref b] [[(a, .inr (2, [.int pr, .ref mi, .ref pb, .int raw, .int fre, .int sand, .int bel, .int al]))], [(mi, .inr (5, [.ref am]))], [(am, .inl (G.2.1 0, 4, .inl f))], [(pb, .inl (G.2.1 0, 6, .inl g))], [(b, .inr (5, [.ref bm]))], [(bm, .inl (G.2.1 0, 4, .inl h))]] (fun u => u = [[(a, .inr (2, [.int 1, .ref mi, .ref pb, .int (mxCopy f h 0), .int 0, .int (mxCopy f h 1), .int 0, .int 0]))], [(mi, .inr (5, [.ref am]))], [(am, .inl (G.2.1 0, 4, .inl (mxCopy f h)))], [(pb, .inl (G.2.1 0, 6, .inl (ze6 g)))], [(b, .inr (5, [.ref bm]))], [(bm, .inl (G.2.1 0, 4, .inl h))]]) := by
  refine Mv_of (by decide) (Nat.le_of_ble_eq_true rfl) (fun pP eE sS mM aA bB tT cC AA QQ hC hr hnm hQ => ?_)
  refine V_aload_n hC dX1_begin_0 0 rfl ?_
  refine V_iconst hC dX1_begin_1 (v := 1) (by decide) ?_
  refine V_put hC dX1_begin_2 inAX1 tyX1 tyX1_ok nmX1 0 0 rfl rfl rfl 0 (by decide) q98 rfl rfl (rfl) (rfl) (Nat.le_of_ble_eq_true rfl) (ps' := [[(a, .inr (2, [.int 1, .ref mi, .ref pb, .int raw, .int fre, .int sand, .int bel, .int al]))], [(mi, .inr (5, [.ref am]))], [(am, .inl (G.2.1 0, 4, .inl f))], [(pb, .inl (G.2.1 0, 6, .inl g))], [(b, .inr (5, [.ref bm]))], [(bm, .inl (G.2.1 0, 4, .inl h))]]) rfl ?_
  refine V_aload_n hC dX1_begin_5 0 rfl ?_
  refine V_get hC dX1_begin_6 inAX1 (mem_at 0 0 rfl rfl) rfl 1 (by decide) q101 rfl (v := .ref mi) rfl ?_
  refine V_aload_n hC dX1_begin_9 1 rfl ?_
  refine V_callv hC (V_runV hC (rest := []) [.ref b] (c_X4_copyFrom l G mi am f b bm h) [1, 2, 4, 5] rfl (by decide) q461 q462 q463 q22 q464 ⟨by decide, by decide, rfl⟩ ⟨by decide, by decide⟩ (ci := 5) rfl (mem_at 1 0 rfl rfl) rfl (Nat.le_of_ble_eq_true rfl) ⟨by decide, by decide⟩ dX1_begin_10) (is := [1, 2, 4, 5]) rfl [0, 3] (rs := [[(a, .inr (2, [.int 1, .ref mi, .ref pb, .int raw, .int fre, .int sand, .int bel, .int al]))], [(pb, .inl (G.2.1 0, 6, .inl g))]]) rfl (by decide) (by decide) ?_
  rintro _ rfl
  refine V_iconst hC dX1_begin_13 (v := 0) (by decide) ?_
  refine V_istore_n hC dX1_begin_14 (L' := [(2, .int 0), (0, .ref a), (1, .ref b)]) (by decide) rfl ?_
  refine V_iload_n hC dX1_begin_15 0 rfl ?_
  refine V_bipush hC dX1_begin_16 (v := 6) (by decide) ?_
  refine V_icmp_geF hC dX1_begin_18 (tgt := 34) (by decide) (by decide) ?_
  refine V_aload_n hC dX1_begin_21 1 rfl ?_
  refine V_get hC dX1_begin_22 inAX1 (mem_at 4 0 rfl rfl) rfl 2 (by decide) q103 rfl (v := .ref pb) rfl ?_
  refine V_iload_n hC dX1_begin_25 0 rfl ?_
  refine V_iconst hC dX1_begin_26 (v := 0) (by decide) ?_
  refine V_iast hC dX1_begin_27 5 0 rfl rfl (vin (by decide)) (z := 0) (by decide) (ps' := [[(mi, .inr (5, [.ref am]))], [(am, .inl (G.2.1 0, 4, .inl (mxCopy f h)))], [(b, .inr (5, [.ref bm]))], [(bm, .inl (G.2.1 0, 4, .inl h))], [(a, .inr (2, [.int 1, .ref mi, .ref pb, .int raw, .int fre, .int sand, .int bel, .int al]))], [(pb, .inl (G.2.1 0, 6, .inl (upd g 0 0)))]]) rfl ?_
  refine V_iinc hC dX1_begin_28 (v := 1) (L' := [(2, .int 1), (0, .ref a), (1, .ref b)]) (j := 0) rfl (by decide) (by decide) rfl ?_
  refine V_goto hC dX1_begin_31 (tgt := 15) (by decide) ?_
  refine V_iload_n hC dX1_begin_15 0 rfl ?_
  refine V_bipush hC dX1_begin_16 (v := 6) (by decide) ?_
  refine V_icmp_geF hC dX1_begin_18 (tgt := 34) (by decide) (by decide) ?_
  refine V_aload_n hC dX1_begin_21 1 rfl ?_
  refine V_get hC dX1_begin_22 inAX1 (mem_at 4 0 rfl rfl) rfl 2 (by decide) q103 rfl (v := .ref pb) rfl ?_
  refine V_iload_n hC dX1_begin_25 0 rfl ?_
  refine V_iconst hC dX1_begin_26 (v := 0) (by decide) ?_
  refine V_iast hC dX1_begin_27 5 0 rfl rfl (vin (by decide)) (z := 1) (by decide) (ps' := [[(mi, .inr (5, [.ref am]))], [(am, .inl (G.2.1 0, 4, .inl (mxCopy f h)))], [(b, .inr (5, [.ref bm]))], [(bm, .inl (G.2.1 0, 4, .inl h))], [(a, .inr (2, [.int 1, .ref mi, .ref pb, .int raw, .int fre, .int sand, .int bel, .int al]))], [(pb, .inl (G.2.1 0, 6, .inl (upd (upd g 0 0) 1 0)))]]) rfl ?_
  refine V_iinc hC dX1_begin_28 (v := 2) (L' := [(2, .int 2), (0, .ref a), (1, .ref b)]) (j := 0) rfl (by decide) (by decide) rfl ?_
  refine V_goto hC dX1_begin_31 (tgt := 15) (by decide) ?_
  refine V_iload_n hC dX1_begin_15 0 rfl ?_
  refine V_bipush hC dX1_begin_16 (v := 6) (by decide) ?_
  refine V_icmp_geF hC dX1_begin_18 (tgt := 34) (by decide) (by decide) ?_
  refine V_aload_n hC dX1_begin_21 1 rfl ?_
  refine V_get hC dX1_begin_22 inAX1 (mem_at 4 0 rfl rfl) rfl 2 (by decide) q103 rfl (v := .ref pb) rfl ?_
  refine V_iload_n hC dX1_begin_25 0 rfl ?_
  refine V_iconst hC dX1_begin_26 (v := 0) (by decide) ?_
  refine V_iast hC dX1_begin_27 5 0 rfl rfl (vin (by decide)) (z := 2) (by decide) (ps' := [[(mi, .inr (5, [.ref am]))], [(am, .inl (G.2.1 0, 4, .inl (mxCopy f h)))], [(b, .inr (5, [.ref bm]))], [(bm, .inl (G.2.1 0, 4, .inl h))], [(a, .inr (2, [.int 1, .ref mi, .ref pb, .int raw, .int fre, .int sand, .int bel, .int al]))], [(pb, .inl (G.2.1 0, 6, .inl (upd (upd (upd g 0 0) 1 0) 2 0)))]]) rfl ?_
  refine V_iinc hC dX1_begin_28 (v := 3) (L' := [(2, .int 3), (0, .ref a), (1, .ref b)]) (j := 0) rfl (by decide) (by decide) rfl ?_
  refine V_goto hC dX1_begin_31 (tgt := 15) (by decide) ?_
  refine V_iload_n hC dX1_begin_15 0 rfl ?_
  refine V_bipush hC dX1_begin_16 (v := 6) (by decide) ?_
  refine V_icmp_geF hC dX1_begin_18 (tgt := 34) (by decide) (by decide) ?_
  refine V_aload_n hC dX1_begin_21 1 rfl ?_
  refine V_get hC dX1_begin_22 inAX1 (mem_at 4 0 rfl rfl) rfl 2 (by decide) q103 rfl (v := .ref pb) rfl ?_
  refine V_iload_n hC dX1_begin_25 0 rfl ?_
  refine V_iconst hC dX1_begin_26 (v := 0) (by decide) ?_
  refine V_iast hC dX1_begin_27 5 0 rfl rfl (vin (by decide)) (z := 3) (by decide) (ps' := [[(mi, .inr (5, [.ref am]))], [(am, .inl (G.2.1 0, 4, .inl (mxCopy f h)))], [(b, .inr (5, [.ref bm]))], [(bm, .inl (G.2.1 0, 4, .inl h))], [(a, .inr (2, [.int 1, .ref mi, .ref pb, .int raw, .int fre, .int sand, .int bel, .int al]))], [(pb, .inl (G.2.1 0, 6, .inl (upd (upd (upd (upd g 0 0) 1 0) 2 0) 3 0)))]]) rfl ?_
  refine V_iinc hC dX1_begin_28 (v := 4) (L' := [(2, .int 4), (0, .ref a), (1, .ref b)]) (j := 0) rfl (by decide) (by decide) rfl ?_
  refine V_goto hC dX1_begin_31 (tgt := 15) (by decide) ?_
  refine V_iload_n hC dX1_begin_15 0 rfl ?_
  refine V_bipush hC dX1_begin_16 (v := 6) (by decide) ?_
  refine V_icmp_geF hC dX1_begin_18 (tgt := 34) (by decide) (by decide) ?_
  refine V_aload_n hC dX1_begin_21 1 rfl ?_
  refine V_get hC dX1_begin_22 inAX1 (mem_at 4 0 rfl rfl) rfl 2 (by decide) q103 rfl (v := .ref pb) rfl ?_
  refine V_iload_n hC dX1_begin_25 0 rfl ?_
  refine V_iconst hC dX1_begin_26 (v := 0) (by decide) ?_
  refine V_iast hC dX1_begin_27 5 0 rfl rfl (vin (by decide)) (z := 4) (by decide) (ps' := [[(mi, .inr (5, [.ref am]))], [(am, .inl (G.2.1 0, 4, .inl (mxCopy f h)))], [(b, .inr (5, [.ref bm]))], [(bm, .inl (G.2.1 0, 4, .inl h))], [(a, .inr (2, [.int 1, .ref mi, .ref pb, .int raw, .int fre, .int sand, .int bel, .int al]))], [(pb, .inl (G.2.1 0, 6, .inl (upd (upd (upd (upd (upd g 0 0) 1 0) 2 0) 3 0) 4 0)))]]) rfl ?_
  refine V_iinc hC dX1_begin_28 (v := 5) (L' := [(2, .int 5), (0, .ref a), (1, .ref b)]) (j := 0) rfl (by decide) (by decide) rfl ?_
  refine V_goto hC dX1_begin_31 (tgt := 15) (by decide) ?_
  refine V_iload_n hC dX1_begin_15 0 rfl ?_
  refine V_bipush hC dX1_begin_16 (v := 6) (by decide) ?_
  refine V_icmp_geF hC dX1_begin_18 (tgt := 34) (by decide) (by decide) ?_
  refine V_aload_n hC dX1_begin_21 1 rfl ?_
  refine V_get hC dX1_begin_22 inAX1 (mem_at 4 0 rfl rfl) rfl 2 (by decide) q103 rfl (v := .ref pb) rfl ?_
  refine V_iload_n hC dX1_begin_25 0 rfl ?_
  refine V_iconst hC dX1_begin_26 (v := 0) (by decide) ?_
  refine V_iast hC dX1_begin_27 5 0 rfl rfl (vin (by decide)) (z := 5) (by decide) (ps' := [[(mi, .inr (5, [.ref am]))], [(am, .inl (G.2.1 0, 4, .inl (mxCopy f h)))], [(b, .inr (5, [.ref bm]))], [(bm, .inl (G.2.1 0, 4, .inl h))], [(a, .inr (2, [.int 1, .ref mi, .ref pb, .int raw, .int fre, .int sand, .int bel, .int al]))], [(pb, .inl (G.2.1 0, 6, .inl (upd (upd (upd (upd (upd (upd g 0 0) 1 0) 2 0) 3 0) 4 0) 5 0)))]]) rfl ?_
  refine V_iinc hC dX1_begin_28 (v := 6) (L' := [(2, .int 6), (0, .ref a), (1, .ref b)]) (j := 0) rfl (by decide) (by decide) rfl ?_
  refine V_goto hC dX1_begin_31 (tgt := 15) (by decide) ?_
  refine V_iload_n hC dX1_begin_15 0 rfl ?_
  refine V_bipush hC dX1_begin_16 (v := 6) (by decide) ?_
  refine V_icmp_geT hC dX1_begin_18 (tgt := 34) (by decide) (by decide) ?_
  refine V_aload_n hC dX1_begin_34 1 rfl ?_
  refine V_aload_n hC dX1_begin_35 1 rfl ?_
  refine V_get hC dX1_begin_36 inAX1 (mem_at 4 0 rfl rfl) rfl 1 (by decide) q101 rfl (v := .ref mi) rfl ?_
  refine V_get hC dX1_begin_39 inAX4 (mem_at 0 0 rfl rfl) rfl 0 (by decide) q78 rfl (v := .ref am) rfl ?_
  refine V_iconst hC dX1_begin_42 (v := 0) (by decide) ?_
  refine V_iald hC dX1_begin_43 (mem_at 1 0 rfl rfl) (vin (by decide)) (x := 0) (by decide) ?_
  refine V_put hC dX1_begin_44 inAX1 tyX1 tyX1_ok nmX1 4 0 rfl rfl rfl 3 (by decide) q105 rfl rfl (rfl) (rfl) (Nat.le_of_ble_eq_true rfl) (ps' := [[(mi, .inr (5, [.ref am]))], [(am, .inl (G.2.1 0, 4, .inl (mxCopy f h)))], [(b, .inr (5, [.ref bm]))], [(bm, .inl (G.2.1 0, 4, .inl h))], [(a, .inr (2, [.int 1, .ref mi, .ref pb, .int ((mxCopy f h) 0), .int fre, .int sand, .int bel, .int al]))], [(pb, .inl (G.2.1 0, 6, .inl (upd (upd (upd (upd (upd (upd g 0 0) 1 0) 2 0) 3 0) 4 0) 5 0)))]]) rfl ?_
  refine V_aload_n hC dX1_begin_47 1 rfl ?_
  refine V_iconst hC dX1_begin_48 (v := 0) (by decide) ?_
  refine V_put hC dX1_begin_49 inAX1 tyX1 tyX1_ok nmX1 4 0 rfl rfl rfl 4 (by decide) q108 rfl rfl (rfl) (rfl) (Nat.le_of_ble_eq_true rfl) (ps' := [[(mi, .inr (5, [.ref am]))], [(am, .inl (G.2.1 0, 4, .inl (mxCopy f h)))], [(b, .inr (5, [.ref bm]))], [(bm, .inl (G.2.1 0, 4, .inl h))], [(a, .inr (2, [.int 1, .ref mi, .ref pb, .int ((mxCopy f h) 0), .int 0, .int sand, .int bel, .int al]))], [(pb, .inl (G.2.1 0, 6, .inl (upd (upd (upd (upd (upd (upd g 0 0) 1 0) 2 0) 3 0) 4 0) 5 0)))]]) rfl ?_
  refine V_aload_n hC dX1_begin_52 1 rfl ?_
  refine V_aload_n hC dX1_begin_53 1 rfl ?_
  refine V_get hC dX1_begin_54 inAX1 (mem_at 4 0 rfl rfl) rfl 1 (by decide) q101 rfl (v := .ref mi) rfl ?_
  refine V_get hC dX1_begin_57 inAX4 (mem_at 0 0 rfl rfl) rfl 0 (by decide) q78 rfl (v := .ref am) rfl ?_
  refine V_iconst hC dX1_begin_60 (v := 1) (by decide) ?_
  refine V_iald hC dX1_begin_61 (mem_at 1 0 rfl rfl) (vin (by decide)) (x := 1) (by decide) ?_
  refine V_put hC dX1_begin_62 inAX1 tyX1 tyX1_ok nmX1 4 0 rfl rfl rfl 5 (by decide) q110 rfl rfl (rfl) (rfl) (Nat.le_of_ble_eq_true rfl) (ps' := [[(mi, .inr (5, [.ref am]))], [(am, .inl (G.2.1 0, 4, .inl (mxCopy f h)))], [(b, .inr (5, [.ref bm]))], [(bm, .inl (G.2.1 0, 4, .inl h))], [(a, .inr (2, [.int 1, .ref mi, .ref pb, .int ((mxCopy f h) 0), .int 0, .int ((mxCopy f h) 1), .int bel, .int al]))], [(pb, .inl (G.2.1 0, 6, .inl (upd (upd (upd (upd (upd (upd g 0 0) 1 0) 2 0) 3 0) 4 0) 5 0)))]]) rfl ?_
  refine V_aload_n hC dX1_begin_65 1 rfl ?_
  refine V_iconst hC dX1_begin_66 (v := 0) (by decide) ?_
  refine V_put hC dX1_begin_67 inAX1 tyX1 tyX1_ok nmX1 4 0 rfl rfl rfl 6 (by decide) q112 rfl rfl (rfl) (rfl) (Nat.le_of_ble_eq_true rfl) (ps' := [[(mi, .inr (5, [.ref am]))], [(am, .inl (G.2.1 0, 4, .inl (mxCopy f h)))], [(b, .inr (5, [.ref bm]))], [(bm, .inl (G.2.1 0, 4, .inl h))], [(a, .inr (2, [.int 1, .ref mi, .ref pb, .int ((mxCopy f h) 0), .int 0, .int ((mxCopy f h) 1), .int 0, .int al]))], [(pb, .inl (G.2.1 0, 6, .inl (upd (upd (upd (upd (upd (upd g 0 0) 1 0) 2 0) 3 0) 4 0) 5 0)))]]) rfl ?_
  refine V_aload_n hC dX1_begin_70 1 rfl ?_
  refine V_iconst hC dX1_begin_71 (v := 0) (by decide) ?_
  refine V_put hC dX1_begin_72 inAX1 tyX1 tyX1_ok nmX1 4 0 rfl rfl rfl 7 (by decide) q114 rfl rfl (rfl) (rfl) (Nat.le_of_ble_eq_true rfl) (ps' := [[(mi, .inr (5, [.ref am]))], [(am, .inl (G.2.1 0, 4, .inl (mxCopy f h)))], [(b, .inr (5, [.ref bm]))], [(bm, .inl (G.2.1 0, 4, .inl h))], [(a, .inr (2, [.int 1, .ref mi, .ref pb, .int ((mxCopy f h) 0), .int 0, .int ((mxCopy f h) 1), .int 0, .int 0]))], [(pb, .inl (G.2.1 0, 6, .inl (upd (upd (upd (upd (upd (upd g 0 0) 1 0) 2 0) 3 0) 4 0) 5 0)))]]) rfl ?_
  exact V_vret hC hQ hr [4, 0, 1, 5, 2, 3] (u := [[(a, .inr (2, [.int 1, .ref mi, .ref pb, .int ((mxCopy f h) 0), .int 0, .int ((mxCopy f h) 1), .int 0, .int 0]))], [(mi, .inr (5, [.ref am]))], [(am, .inl (G.2.1 0, 4, .inl (mxCopy f h)))], [(pb, .inl (G.2.1 0, 6, .inl (upd (upd (upd (upd (upd (upd g 0 0) 1 0) 2 0) 3 0) 4 0) 5 0)))], [(b, .inr (5, [.ref bm]))], [(bm, .inl (G.2.1 0, 4, .inl h))]]) (by decide) rfl (by decide) (by decide) dX1_begin_75 (rfl)
set_option maxHeartbeats 4000000 in
set_option maxRecDepth 100000 in
/-- ClinkerWorks$Charge.copyFrom -/
theorem c_X1_copyFrom (l : Launch) (G : VG) (a mi pb am : Nat) (pr raw fre sand bel al : Int32) (f g : Nat → Int32) (b mi2 pb2 am2 : Nat) (pr2 raw2 fre2 sand2 bel2 al2 : Int32) (f2 g2 : Nat → Int32) (hpr : pr2 = 0 ∨ pr2 = 1) : Mv l G yX1_copyFrom cX1_copyFrom 3 1 22 0 0 [.ref a, .ref b] [[(a, .inr (2, [.int pr, .ref mi, .ref pb, .int raw, .int fre, .int sand, .int bel, .int al]))], [(mi, .inr (5, [.ref am]))], [(am, .inl (G.2.1 0, 4, .inl f))], [(pb, .inl (G.2.1 0, 6, .inl g))], [(b, .inr (2, [.int pr2, .ref mi2, .ref pb2, .int raw2, .int fre2, .int sand2, .int bel2, .int al2]))], [(mi2, .inr (5, [.ref am2]))], [(am2, .inl (G.2.1 0, 4, .inl f2))], [(pb2, .inl (G.2.1 0, 6, .inl g2))]] (fun u => u = [[(a, .inr (2, [.int pr2, .ref mi, .ref pb, .int raw2, .int fre2, .int sand2, .int bel2, .int al2]))], [(mi, .inr (5, [.ref am]))], [(am, .inl (G.2.1 0, 4, .inl (mxCopy f f2)))], [(pb, .inl (G.2.1 0, 6, .inl (cp6 g g2)))], [(b, .inr (2, [.int pr2, .ref mi2, .ref pb2, .int raw2, .int fre2, .int sand2, .int bel2, .int al2]))], [(mi2, .inr (5, [.ref am2]))], [(am2, .inl (G.2.1 0, 4, .inl f2))], [(pb2, .inl (G.2.1 0, 6, .inl g2))]]) := by
  refine Mv_of (by decide) (Nat.le_of_ble_eq_true rfl) (fun pP eE sS mM aA bB tT cC AA QQ hC hr hnm hQ => ?_)
  refine V_aload_n hC dX1_copyFrom_0 0 rfl ?_
  refine V_aload_n hC dX1_copyFrom_1 1 rfl ?_
  refine V_get hC dX1_copyFrom_2 inAX1 (mem_at 4 0 rfl rfl) rfl 0 (by decide) q98 rfl (v := .int pr2) rfl ?_
  refine V_put hC dX1_copyFrom_5 inAX1 tyX1 tyX1_ok nmX1 0 0 rfl rfl rfl 0 (by decide) q98 rfl rfl (by rcases hpr with rfl | rfl <;> rfl) (by rcases hpr with rfl | rfl <;> rfl) (Nat.le_of_ble_eq_true rfl) (ps' := [[(a, .inr (2, [.int pr2, .ref mi, .ref pb, .int raw, .int fre, .int sand, .int bel, .int al]))], [(mi, .inr (5, [.ref am]))], [(am, .inl (G.2.1 0, 4, .inl f))], [(pb, .inl (G.2.1 0, 6, .inl g))], [(b, .inr (2, [.int pr2, .ref mi2, .ref pb2, .int raw2, .int fre2, .int sand2, .int bel2, .int al2]))], [(mi2, .inr (5, [.ref am2]))], [(am2, .inl (G.2.1 0, 4, .inl f2))], [(pb2, .inl (G.2.1 0, 6, .inl g2))]]) rfl ?_
  refine V_aload_n hC dX1_copyFrom_8 0 rfl ?_
  refine V_get hC dX1_copyFrom_9 inAX1 (mem_at 0 0 rfl rfl) rfl 1 (by decide) q101 rfl (v := .ref mi) rfl ?_
  refine V_aload_n hC dX1_copyFrom_12 1 rfl ?_
  refine V_get hC dX1_copyFrom_13 inAX1 (mem_at 4 0 rfl rfl) rfl 1 (by decide) q101 rfl (v := .ref mi2) rfl ?_
  refine V_callv hC (V_runV hC (rest := []) [.ref mi2] (c_X4_copyFrom l G mi am f mi2 am2 f2) [1, 2, 5, 6] rfl (by decide) q461 q462 q463 q22 q464 ⟨by decide, by decide, rfl⟩ ⟨by decide, by decide⟩ (ci := 5) rfl (mem_at 1 0 rfl rfl) rfl (Nat.le_of_ble_eq_true rfl) ⟨by decide, by decide⟩ dX1_copyFrom_16) (is := [1, 2, 5, 6]) rfl [0, 3, 4, 7] (rs := [[(a, .inr (2, [.int pr2, .ref mi, .ref pb, .int raw, .int fre, .int sand, .int bel, .int al]))], [(pb, .inl (G.2.1 0, 6, .inl g))], [(b, .inr (2, [.int pr2, .ref mi2, .ref pb2, .int raw2, .int fre2, .int sand2, .int bel2, .int al2]))], [(pb2, .inl (G.2.1 0, 6, .inl g2))]]) rfl (by decide) (by decide) ?_
  rintro _ rfl
  refine V_iconst hC dX1_copyFrom_19 (v := 0) (by decide) ?_
  refine V_istore_n hC dX1_copyFrom_20 (L' := [(2, .int 0), (0, .ref a), (1, .ref b)]) (by decide) rfl ?_
  refine V_iload_n hC dX1_copyFrom_21 0 rfl ?_
  refine V_bipush hC dX1_copyFrom_22 (v := 6) (by decide) ?_
  refine V_icmp_geF hC dX1_copyFrom_24 (tgt := 45) (by decide) (by decide) ?_
  refine V_aload_n hC dX1_copyFrom_27 1 rfl ?_
  refine V_get hC dX1_copyFrom_28 inAX1 (mem_at 4 0 rfl rfl) rfl 2 (by decide) q103 rfl (v := .ref pb) rfl ?_
  refine V_iload_n hC dX1_copyFrom_31 0 rfl ?_
  refine V_aload_n hC dX1_copyFrom_32 2 rfl ?_
  refine V_get hC dX1_copyFrom_33 inAX1 (mem_at 6 0 rfl rfl) rfl 2 (by decide) q103 rfl (v := .ref pb2) rfl ?_
  refine V_iload_n hC dX1_copyFrom_36 0 rfl ?_
  refine V_iald hC dX1_copyFrom_37 (mem_at 7 0 rfl rfl) (vin (by decide)) (x := 0) (by decide) ?_
  refine V_iast hC dX1_copyFrom_38 5 0 rfl rfl (vin (by decide)) (z := 0) (by decide) (ps' := [[(mi, .inr (5, [.ref am]))], [(am, .inl (G.2.1 0, 4, .inl (mxCopy f f2)))], [(mi2, .inr (5, [.ref am2]))], [(am2, .inl (G.2.1 0, 4, .inl f2))], [(a, .inr (2, [.int pr2, .ref mi, .ref pb, .int raw, .int fre, .int sand, .int bel, .int al]))], [(pb, .inl (G.2.1 0, 6, .inl (upd g 0 (g2 0))))], [(b, .inr (2, [.int pr2, .ref mi2, .ref pb2, .int raw2, .int fre2, .int sand2, .int bel2, .int al2]))], [(pb2, .inl (G.2.1 0, 6, .inl g2))]]) rfl ?_
  refine V_iinc hC dX1_copyFrom_39 (v := 1) (L' := [(2, .int 1), (0, .ref a), (1, .ref b)]) (j := 0) rfl (by decide) (by decide) rfl ?_
  refine V_goto hC dX1_copyFrom_42 (tgt := 21) (by decide) ?_
  refine V_iload_n hC dX1_copyFrom_21 0 rfl ?_
  refine V_bipush hC dX1_copyFrom_22 (v := 6) (by decide) ?_
  refine V_icmp_geF hC dX1_copyFrom_24 (tgt := 45) (by decide) (by decide) ?_
  refine V_aload_n hC dX1_copyFrom_27 1 rfl ?_
  refine V_get hC dX1_copyFrom_28 inAX1 (mem_at 4 0 rfl rfl) rfl 2 (by decide) q103 rfl (v := .ref pb) rfl ?_
  refine V_iload_n hC dX1_copyFrom_31 0 rfl ?_
  refine V_aload_n hC dX1_copyFrom_32 2 rfl ?_
  refine V_get hC dX1_copyFrom_33 inAX1 (mem_at 6 0 rfl rfl) rfl 2 (by decide) q103 rfl (v := .ref pb2) rfl ?_
  refine V_iload_n hC dX1_copyFrom_36 0 rfl ?_
  refine V_iald hC dX1_copyFrom_37 (mem_at 7 0 rfl rfl) (vin (by decide)) (x := 1) (by decide) ?_
  refine V_iast hC dX1_copyFrom_38 5 0 rfl rfl (vin (by decide)) (z := 1) (by decide) (ps' := [[(mi, .inr (5, [.ref am]))], [(am, .inl (G.2.1 0, 4, .inl (mxCopy f f2)))], [(mi2, .inr (5, [.ref am2]))], [(am2, .inl (G.2.1 0, 4, .inl f2))], [(a, .inr (2, [.int pr2, .ref mi, .ref pb, .int raw, .int fre, .int sand, .int bel, .int al]))], [(pb, .inl (G.2.1 0, 6, .inl (upd (upd g 0 (g2 0)) 1 (g2 1))))], [(b, .inr (2, [.int pr2, .ref mi2, .ref pb2, .int raw2, .int fre2, .int sand2, .int bel2, .int al2]))], [(pb2, .inl (G.2.1 0, 6, .inl g2))]]) rfl ?_
  refine V_iinc hC dX1_copyFrom_39 (v := 2) (L' := [(2, .int 2), (0, .ref a), (1, .ref b)]) (j := 0) rfl (by decide) (by decide) rfl ?_
  refine V_goto hC dX1_copyFrom_42 (tgt := 21) (by decide) ?_
  refine V_iload_n hC dX1_copyFrom_21 0 rfl ?_
  refine V_bipush hC dX1_copyFrom_22 (v := 6) (by decide) ?_
  refine V_icmp_geF hC dX1_copyFrom_24 (tgt := 45) (by decide) (by decide) ?_
  refine V_aload_n hC dX1_copyFrom_27 1 rfl ?_
  refine V_get hC dX1_copyFrom_28 inAX1 (mem_at 4 0 rfl rfl) rfl 2 (by decide) q103 rfl (v := .ref pb) rfl ?_
  refine V_iload_n hC dX1_copyFrom_31 0 rfl ?_
  refine V_aload_n hC dX1_copyFrom_32 2 rfl ?_
  refine V_get hC dX1_copyFrom_33 inAX1 (mem_at 6 0 rfl rfl) rfl 2 (by decide) q103 rfl (v := .ref pb2) rfl ?_
  refine V_iload_n hC dX1_copyFrom_36 0 rfl ?_
  refine V_iald hC dX1_copyFrom_37 (mem_at 7 0 rfl rfl) (vin (by decide)) (x := 2) (by decide) ?_
  refine V_iast hC dX1_copyFrom_38 5 0 rfl rfl (vin (by decide)) (z := 2) (by decide) (ps' := [[(mi, .inr (5, [.ref am]))], [(am, .inl (G.2.1 0, 4, .inl (mxCopy f f2)))], [(mi2, .inr (5, [.ref am2]))], [(am2, .inl (G.2.1 0, 4, .inl f2))], [(a, .inr (2, [.int pr2, .ref mi, .ref pb, .int raw, .int fre, .int sand, .int bel, .int al]))], [(pb, .inl (G.2.1 0, 6, .inl (upd (upd (upd g 0 (g2 0)) 1 (g2 1)) 2 (g2 2))))], [(b, .inr (2, [.int pr2, .ref mi2, .ref pb2, .int raw2, .int fre2, .int sand2, .int bel2, .int al2]))], [(pb2, .inl (G.2.1 0, 6, .inl g2))]]) rfl ?_
  refine V_iinc hC dX1_copyFrom_39 (v := 3) (L' := [(2, .int 3), (0, .ref a), (1, .ref b)]) (j := 0) rfl (by decide) (by decide) rfl ?_
  refine V_goto hC dX1_copyFrom_42 (tgt := 21) (by decide) ?_
  refine V_iload_n hC dX1_copyFrom_21 0 rfl ?_
  refine V_bipush hC dX1_copyFrom_22 (v := 6) (by decide) ?_
  refine V_icmp_geF hC dX1_copyFrom_24 (tgt := 45) (by decide) (by decide) ?_
  refine V_aload_n hC dX1_copyFrom_27 1 rfl ?_
  refine V_get hC dX1_copyFrom_28 inAX1 (mem_at 4 0 rfl rfl) rfl 2 (by decide) q103 rfl (v := .ref pb) rfl ?_
  refine V_iload_n hC dX1_copyFrom_31 0 rfl ?_
  refine V_aload_n hC dX1_copyFrom_32 2 rfl ?_
  refine V_get hC dX1_copyFrom_33 inAX1 (mem_at 6 0 rfl rfl) rfl 2 (by decide) q103 rfl (v := .ref pb2) rfl ?_
  refine V_iload_n hC dX1_copyFrom_36 0 rfl ?_
  refine V_iald hC dX1_copyFrom_37 (mem_at 7 0 rfl rfl) (vin (by decide)) (x := 3) (by decide) ?_
  refine V_iast hC dX1_copyFrom_38 5 0 rfl rfl (vin (by decide)) (z := 3) (by decide) (ps' := [[(mi, .inr (5, [.ref am]))], [(am, .inl (G.2.1 0, 4, .inl (mxCopy f f2)))], [(mi2, .inr (5, [.ref am2]))], [(am2, .inl (G.2.1 0, 4, .inl f2))], [(a, .inr (2, [.int pr2, .ref mi, .ref pb, .int raw, .int fre, .int sand, .int bel, .int al]))], [(pb, .inl (G.2.1 0, 6, .inl (upd (upd (upd (upd g 0 (g2 0)) 1 (g2 1)) 2 (g2 2)) 3 (g2 3))))], [(b, .inr (2, [.int pr2, .ref mi2, .ref pb2, .int raw2, .int fre2, .int sand2, .int bel2, .int al2]))], [(pb2, .inl (G.2.1 0, 6, .inl g2))]]) rfl ?_
  refine V_iinc hC dX1_copyFrom_39 (v := 4) (L' := [(2, .int 4), (0, .ref a), (1, .ref b)]) (j := 0) rfl (by decide) (by decide) rfl ?_
  refine V_goto hC dX1_copyFrom_42 (tgt := 21) (by decide) ?_
  refine V_iload_n hC dX1_copyFrom_21 0 rfl ?_
  refine V_bipush hC dX1_copyFrom_22 (v := 6) (by decide) ?_
  refine V_icmp_geF hC dX1_copyFrom_24 (tgt := 45) (by decide) (by decide) ?_
  refine V_aload_n hC dX1_copyFrom_27 1 rfl ?_
  refine V_get hC dX1_copyFrom_28 inAX1 (mem_at 4 0 rfl rfl) rfl 2 (by decide) q103 rfl (v := .ref pb) rfl ?_
  refine V_iload_n hC dX1_copyFrom_31 0 rfl ?_
  refine V_aload_n hC dX1_copyFrom_32 2 rfl ?_
  refine V_get hC dX1_copyFrom_33 inAX1 (mem_at 6 0 rfl rfl) rfl 2 (by decide) q103 rfl (v := .ref pb2) rfl ?_
  refine V_iload_n hC dX1_copyFrom_36 0 rfl ?_
  refine V_iald hC dX1_copyFrom_37 (mem_at 7 0 rfl rfl) (vin (by decide)) (x := 4) (by decide) ?_
  refine V_iast hC dX1_copyFrom_38 5 0 rfl rfl (vin (by decide)) (z := 4) (by decide) (ps' := [[(mi, .inr (5, [.ref am]))], [(am, .inl (G.2.1 0, 4, .inl (mxCopy f f2)))], [(mi2, .inr (5, [.ref am2]))], [(am2, .inl (G.2.1 0, 4, .inl f2))], [(a, .inr (2, [.int pr2, .ref mi, .ref pb, .int raw, .int fre, .int sand, .int bel, .int al]))], [(pb, .inl (G.2.1 0, 6, .inl (upd (upd (upd (upd (upd g 0 (g2 0)) 1 (g2 1)) 2 (g2 2)) 3 (g2 3)) 4 (g2 4))))], [(b, .inr (2, [.int pr2, .ref mi2, .ref pb2, .int raw2, .int fre2, .int sand2, .int bel2, .int al2]))], [(pb2, .inl (G.2.1 0, 6, .inl g2))]]) rfl ?_
  refine V_iinc hC dX1_copyFrom_39 (v := 5) (L' := [(2, .int 5), (0, .ref a), (1, .ref b)]) (j := 0) rfl (by decide) (by decide) rfl ?_
  refine V_goto hC dX1_copyFrom_42 (tgt := 21) (by decide) ?_
  refine V_iload_n hC dX1_copyFrom_21 0 rfl ?_
  refine V_bipush hC dX1_copyFrom_22 (v := 6) (by decide) ?_
  refine V_icmp_geF hC dX1_copyFrom_24 (tgt := 45) (by decide) (by decide) ?_
  refine V_aload_n hC dX1_copyFrom_27 1 rfl ?_
  refine V_get hC dX1_copyFrom_28 inAX1 (mem_at 4 0 rfl rfl) rfl 2 (by decide) q103 rfl (v := .ref pb) rfl ?_
  refine V_iload_n hC dX1_copyFrom_31 0 rfl ?_
  refine V_aload_n hC dX1_copyFrom_32 2 rfl ?_
  refine V_get hC dX1_copyFrom_33 inAX1 (mem_at 6 0 rfl rfl) rfl 2 (by decide) q103 rfl (v := .ref pb2) rfl ?_
  refine V_iload_n hC dX1_copyFrom_36 0 rfl ?_
  refine V_iald hC dX1_copyFrom_37 (mem_at 7 0 rfl rfl) (vin (by decide)) (x := 5) (by decide) ?_
  refine V_iast hC dX1_copyFrom_38 5 0 rfl rfl (vin (by decide)) (z := 5) (by decide) (ps' := [[(mi, .inr (5, [.ref am]))], [(am, .inl (G.2.1 0, 4, .inl (mxCopy f f2)))], [(mi2, .inr (5, [.ref am2]))], [(am2, .inl (G.2.1 0, 4, .inl f2))], [(a, .inr (2, [.int pr2, .ref mi, .ref pb, .int raw, .int fre, .int sand, .int bel, .int al]))], [(pb, .inl (G.2.1 0, 6, .inl (upd (upd (upd (upd (upd (upd g 0 (g2 0)) 1 (g2 1)) 2 (g2 2)) 3 (g2 3)) 4 (g2 4)) 5 (g2 5))))], [(b, .inr (2, [.int pr2, .ref mi2, .ref pb2, .int raw2, .int fre2, .int sand2, .int bel2, .int al2]))], [(pb2, .inl (G.2.1 0, 6, .inl g2))]]) rfl ?_
  refine V_iinc hC dX1_copyFrom_39 (v := 6) (L' := [(2, .int 6), (0, .ref a), (1, .ref b)]) (j := 0) rfl (by decide) (by decide) rfl ?_
  refine V_goto hC dX1_copyFrom_42 (tgt := 21) (by decide) ?_
  refine V_iload_n hC dX1_copyFrom_21 0 rfl ?_
  refine V_bipush hC dX1_copyFrom_22 (v := 6) (by decide) ?_
  refine V_icmp_geT hC dX1_copyFrom_24 (tgt := 45) (by decide) (by decide) ?_
  refine V_aload_n hC dX1_copyFrom_45 1 rfl ?_
  refine V_aload_n hC dX1_copyFrom_46 2 rfl ?_
  refine V_get hC dX1_copyFrom_47 inAX1 (mem_at 6 0 rfl rfl) rfl 3 (by decide) q105 rfl (v := .int raw2) rfl ?_
  refine V_put hC dX1_copyFrom_50 inAX1 tyX1 tyX1_ok nmX1 4 0 rfl rfl rfl 3 (by decide) q105 rfl rfl (rfl) (rfl) (Nat.le_of_ble_eq_true rfl) (ps' := [[(mi, .inr (5, [.ref am]))], [(am, .inl (G.2.1 0, 4, .inl (mxCopy f f2)))], [(mi2, .inr (5, [.ref am2]))], [(am2, .inl (G.2.1 0, 4, .inl f2))], [(a, .inr (2, [.int pr2, .ref mi, .ref pb, .int raw2, .int fre, .int sand, .int bel, .int al]))], [(pb, .inl (G.2.1 0, 6, .inl (upd (upd (upd (upd (upd (upd g 0 (g2 0)) 1 (g2 1)) 2 (g2 2)) 3 (g2 3)) 4 (g2 4)) 5 (g2 5))))], [(b, .inr (2, [.int pr2, .ref mi2, .ref pb2, .int raw2, .int fre2, .int sand2, .int bel2, .int al2]))], [(pb2, .inl (G.2.1 0, 6, .inl g2))]]) rfl ?_
  refine V_aload_n hC dX1_copyFrom_53 1 rfl ?_
  refine V_aload_n hC dX1_copyFrom_54 2 rfl ?_
  refine V_get hC dX1_copyFrom_55 inAX1 (mem_at 6 0 rfl rfl) rfl 4 (by decide) q108 rfl (v := .int fre2) rfl ?_
  refine V_put hC dX1_copyFrom_58 inAX1 tyX1 tyX1_ok nmX1 4 0 rfl rfl rfl 4 (by decide) q108 rfl rfl (rfl) (rfl) (Nat.le_of_ble_eq_true rfl) (ps' := [[(mi, .inr (5, [.ref am]))], [(am, .inl (G.2.1 0, 4, .inl (mxCopy f f2)))], [(mi2, .inr (5, [.ref am2]))], [(am2, .inl (G.2.1 0, 4, .inl f2))], [(a, .inr (2, [.int pr2, .ref mi, .ref pb, .int raw2, .int fre2, .int sand, .int bel, .int al]))], [(pb, .inl (G.2.1 0, 6, .inl (upd (upd (upd (upd (upd (upd g 0 (g2 0)) 1 (g2 1)) 2 (g2 2)) 3 (g2 3)) 4 (g2 4)) 5 (g2 5))))], [(b, .inr (2, [.int pr2, .ref mi2, .ref pb2, .int raw2, .int fre2, .int sand2, .int bel2, .int al2]))], [(pb2, .inl (G.2.1 0, 6, .inl g2))]]) rfl ?_
  refine V_aload_n hC dX1_copyFrom_61 1 rfl ?_
  refine V_aload_n hC dX1_copyFrom_62 2 rfl ?_
  refine V_get hC dX1_copyFrom_63 inAX1 (mem_at 6 0 rfl rfl) rfl 5 (by decide) q110 rfl (v := .int sand2) rfl ?_
  refine V_put hC dX1_copyFrom_66 inAX1 tyX1 tyX1_ok nmX1 4 0 rfl rfl rfl 5 (by decide) q110 rfl rfl (rfl) (rfl) (Nat.le_of_ble_eq_true rfl) (ps' := [[(mi, .inr (5, [.ref am]))], [(am, .inl (G.2.1 0, 4, .inl (mxCopy f f2)))], [(mi2, .inr (5, [.ref am2]))], [(am2, .inl (G.2.1 0, 4, .inl f2))], [(a, .inr (2, [.int pr2, .ref mi, .ref pb, .int raw2, .int fre2, .int sand2, .int bel, .int al]))], [(pb, .inl (G.2.1 0, 6, .inl (upd (upd (upd (upd (upd (upd g 0 (g2 0)) 1 (g2 1)) 2 (g2 2)) 3 (g2 3)) 4 (g2 4)) 5 (g2 5))))], [(b, .inr (2, [.int pr2, .ref mi2, .ref pb2, .int raw2, .int fre2, .int sand2, .int bel2, .int al2]))], [(pb2, .inl (G.2.1 0, 6, .inl g2))]]) rfl ?_
  refine V_aload_n hC dX1_copyFrom_69 1 rfl ?_
  refine V_aload_n hC dX1_copyFrom_70 2 rfl ?_
  refine V_get hC dX1_copyFrom_71 inAX1 (mem_at 6 0 rfl rfl) rfl 6 (by decide) q112 rfl (v := .int bel2) rfl ?_
  refine V_put hC dX1_copyFrom_74 inAX1 tyX1 tyX1_ok nmX1 4 0 rfl rfl rfl 6 (by decide) q112 rfl rfl (rfl) (rfl) (Nat.le_of_ble_eq_true rfl) (ps' := [[(mi, .inr (5, [.ref am]))], [(am, .inl (G.2.1 0, 4, .inl (mxCopy f f2)))], [(mi2, .inr (5, [.ref am2]))], [(am2, .inl (G.2.1 0, 4, .inl f2))], [(a, .inr (2, [.int pr2, .ref mi, .ref pb, .int raw2, .int fre2, .int sand2, .int bel2, .int al]))], [(pb, .inl (G.2.1 0, 6, .inl (upd (upd (upd (upd (upd (upd g 0 (g2 0)) 1 (g2 1)) 2 (g2 2)) 3 (g2 3)) 4 (g2 4)) 5 (g2 5))))], [(b, .inr (2, [.int pr2, .ref mi2, .ref pb2, .int raw2, .int fre2, .int sand2, .int bel2, .int al2]))], [(pb2, .inl (G.2.1 0, 6, .inl g2))]]) rfl ?_
  refine V_aload_n hC dX1_copyFrom_77 1 rfl ?_
  refine V_aload_n hC dX1_copyFrom_78 2 rfl ?_
  refine V_get hC dX1_copyFrom_79 inAX1 (mem_at 6 0 rfl rfl) rfl 7 (by decide) q114 rfl (v := .int al2) rfl ?_
  refine V_put hC dX1_copyFrom_82 inAX1 tyX1 tyX1_ok nmX1 4 0 rfl rfl rfl 7 (by decide) q114 rfl rfl (rfl) (rfl) (Nat.le_of_ble_eq_true rfl) (ps' := [[(mi, .inr (5, [.ref am]))], [(am, .inl (G.2.1 0, 4, .inl (mxCopy f f2)))], [(mi2, .inr (5, [.ref am2]))], [(am2, .inl (G.2.1 0, 4, .inl f2))], [(a, .inr (2, [.int pr2, .ref mi, .ref pb, .int raw2, .int fre2, .int sand2, .int bel2, .int al2]))], [(pb, .inl (G.2.1 0, 6, .inl (upd (upd (upd (upd (upd (upd g 0 (g2 0)) 1 (g2 1)) 2 (g2 2)) 3 (g2 3)) 4 (g2 4)) 5 (g2 5))))], [(b, .inr (2, [.int pr2, .ref mi2, .ref pb2, .int raw2, .int fre2, .int sand2, .int bel2, .int al2]))], [(pb2, .inl (G.2.1 0, 6, .inl g2))]]) rfl ?_
  exact V_vret hC hQ hr [4, 0, 1, 5, 6, 2, 3, 7] (u := [[(a, .inr (2, [.int pr2, .ref mi, .ref pb, .int raw2, .int fre2, .int sand2, .int bel2, .int al2]))], [(mi, .inr (5, [.ref am]))], [(am, .inl (G.2.1 0, 4, .inl (mxCopy f f2)))], [(pb, .inl (G.2.1 0, 6, .inl (upd (upd (upd (upd (upd (upd g 0 (g2 0)) 1 (g2 1)) 2 (g2 2)) 3 (g2 3)) 4 (g2 4)) 5 (g2 5))))], [(b, .inr (2, [.int pr2, .ref mi2, .ref pb2, .int raw2, .int fre2, .int sand2, .int bel2, .int al2]))], [(mi2, .inr (5, [.ref am2]))], [(am2, .inl (G.2.1 0, 4, .inl f2))], [(pb2, .inl (G.2.1 0, 6, .inl g2))]]) (by decide) rfl (by decide) (by decide) dX1_copyFrom_85 (rfl)
set_option maxHeartbeats 4000000 in
set_option maxRecDepth 100000 in
/-- ClinkerWorks$Charge.melt -/
theorem c_X1_melt (l : Launch) (G : VG) (a mi pb am : Nat) (pr raw fre sand bel al : Int32) (f g : Nat → Int32) : Mi l G yX1_melt cX1_melt 1 .int 1 20 0 0 [.ref a] [[(a, .inr (2, [.int pr, .ref mi, .ref pb, .int raw, .int fre, .int sand, .int bel, .int al]))], [(mi, .inr (5, [.ref am]))], [(am, .inl (G.2.1 0, 4, .inl f))], [(pb, .inl (G.2.1 0, 6, .inl g))]] (fun r u => r = mxMelt f ∧ u = [[(a, .inr (2, [.int pr, .ref mi, .ref pb, .int raw, .int fre, .int sand, .int bel, .int al]))], [(mi, .inr (5, [.ref am]))], [(am, .inl (G.2.1 0, 4, .inl f))], [(pb, .inl (G.2.1 0, 6, .inl g))]]) := by
  refine Mi_of (by decide) (Nat.le_of_ble_eq_true rfl) (fun pP eE sS mM aA bB tT cC AA QQ hC hr hnm hQ => ?_)
  refine V_aload_n hC dX1_melt_0 0 rfl ?_
  refine V_get hC dX1_melt_1 inAX1 (mem_at 0 0 rfl rfl) rfl 1 (by decide) q101 rfl (v := .ref mi) rfl ?_
  refine V_calli hC (V_runV hC (rest := []) [] (c_X4_melt l G mi am f) [1, 2] rfl (by decide) q521 q522 q523 q22 q524 ⟨by decide, by decide, rfl⟩ ⟨by decide, by decide⟩ (ci := 5) rfl (mem_at 1 0 rfl rfl) rfl (Nat.le_of_ble_eq_true rfl) ⟨by decide, by decide⟩ dX1_melt_4) (is := [1, 2]) rfl [0, 3] (rs := [[(a, .inr (2, [.int pr, .ref mi, .ref pb, .int raw, .int fre, .int sand, .int bel, .int al]))], [(pb, .inl (G.2.1 0, 6, .inl g))]]) rfl (by decide) (by decide) ?_
  rintro _ _ ⟨rfl, rfl⟩
  exact V_iret hC hQ hr [2, 0, 1, 3] (u := [[(a, .inr (2, [.int pr, .ref mi, .ref pb, .int raw, .int fre, .int sand, .int bel, .int al]))], [(mi, .inr (5, [.ref am]))], [(am, .inl (G.2.1 0, 4, .inl f))], [(pb, .inl (G.2.1 0, 6, .inl g))]]) (by decide) rfl (by decide) (by decide) dX1_melt_7 (⟨rfl, rfl⟩)
set_option maxHeartbeats 4000000 in
set_option maxRecDepth 100000 in
/-- ClinkerWorks$Charge.burn -/
theorem c_X1_burn (l : Launch) (G : VG) (a mi pb am : Nat) (pr raw fre sand bel al : Int32) (f g : Nat → Int32) (w : Int32) : Mi l G yX1_burn cX1_burn 4 .int 2 40 0 0 [.ref a, .int w] [[(a, .inr (2, [.int pr, .ref mi, .ref pb, .int raw, .int fre, .int sand, .int bel, .int al]))], [(mi, .inr (5, [.ref am]))], [(am, .inl (G.2.1 0, 4, .inl f))], [(pb, .inl (G.2.1 0, 6, .inl g))]] (fun r u => r = bnA w raw ∧ u = [[(a, .inr (2, [.int pr, .ref mi, .ref pb, .int (raw - bnA w raw), .int (bnFree2 w raw fre sand - bnC1 w raw fre sand bel (mxMelt f)), .int (sand - bnB1 w raw fre sand), .int (bel + bnB1 w raw fre sand - bnC1 w raw fre sand bel (mxMelt f)), .int (al + bnC1 w raw fre sand bel (mxMelt f))]))], [(mi, .inr (5, [.ref am]))], [(am, .inl (G.2.1 0, 4, .inl f))], [(pb, .inl (G.2.1 0, 6, .inl g))]]) := by
  refine Mi_of (by decide) (Nat.le_of_ble_eq_true rfl) (fun pP eE sS mM aA bB tT cC AA QQ hC hr hnm hQ => ?_)
  refine V_iconst hC dX1_burn_0 (v := 0) (by decide) ?_
  refine V_istore_n hC dX1_burn_1 (L' := [(2, .int 0), (0, .ref a), (1, .int w)]) (by decide) rfl ?_
  refine V_iload_n hC dX1_burn_2 2 rfl ?_
  refine V_iconst hC dX1_burn_3 (v := 5) (by decide) ?_
  refine V_icmp_lt hC dX1_burn_4 (tgt := 38) (by decide) (fun h1 => ?_) (fun h1 => ?_)
  · refine V_iload_n hC dX1_burn_38 2 rfl ?_
    refine V_bipush hC dX1_burn_39 (v := 7) (by decide) ?_
    refine V_icmp_lt hC dX1_burn_41 (tgt := 97) (by decide) (fun h2 => ?_) (fun h2 => ?_)
    · refine V_iload_n hC dX1_burn_97 2 rfl ?_
      refine V_bipush hC dX1_burn_98 (v := 9) (by decide) ?_
      refine V_icmp_lt hC dX1_burn_100 (tgt := 159) (by decide) (fun h3 => ?_) (fun h3 => ?_)
      · refine V_iload_n hC dX1_burn_159 0 rfl ?_
        exact V_iret hC hQ hr [0, 1, 2, 3] (u := [[(a, .inr (2, [.int pr, .ref mi, .ref pb, .int raw, .int fre, .int sand, .int bel, .int al]))], [(mi, .inr (5, [.ref am]))], [(am, .inl (G.2.1 0, 4, .inl f))], [(pb, .inl (G.2.1 0, 6, .inl g))]]) (by decide) rfl (by decide) (by decide) dX1_burn_160 (⟨by simp [bnA, *], by simp [bnC1, bnC, bnFree2, bnB1, bnB, bnFree1, bnA, sub0, *]⟩)
      · refine V_iload_n hC dX1_burn_103 2 rfl ?_
        refine V_bipush hC dX1_burn_104 (v := 8) (by decide) ?_
        refine V_isub hC dX1_burn_106 ?_
        refine V_aload_n hC dX1_burn_107 1 rfl ?_
        refine V_calli hC (V_runV hC (rest := [.int (w - 8)]) [] (c_X1_melt l G a mi pb am pr raw fre sand bel al f g) [0, 1, 2, 3] rfl (by decide) q517 q518 q519 q24 q520 ⟨by decide, by decide, rfl⟩ ⟨by decide, by decide⟩ (ci := 2) rfl (mem_at 0 0 rfl rfl) rfl (Nat.le_of_ble_eq_true rfl) ⟨by decide, by decide⟩ dX1_burn_108) (is := [0, 1, 2, 3]) rfl [] (rs := []) rfl (by decide) (by decide) ?_
        rintro _ _ ⟨rfl, rfl⟩
        refine V_iconst hC dX1_burn_111 (v := 4) (by decide) ?_
        refine V_idiv hC dX1_burn_112 (by decide) ?_
        refine V_iadd hC dX1_burn_113 ?_
        refine V_aload_n hC dX1_burn_114 1 rfl ?_
        refine V_get hC dX1_burn_115 inAX1 (mem_at 0 0 rfl rfl) rfl 4 (by decide) q108 rfl (v := .int fre) rfl ?_
        refine V_aload_n hC dX1_burn_118 1 rfl ?_
        refine V_get hC dX1_burn_119 inAX1 (mem_at 0 0 rfl rfl) rfl 6 (by decide) q112 rfl (v := .int bel) rfl ?_
        refine V_mmin hC q516 q424 q35 q425 (by decide) (Nat.le_of_ble_eq_true rfl) (by decide) (by decide) dX1_burn_122 ?_
        refine V_mmin hC q516 q424 q35 q425 (by decide) (Nat.le_of_ble_eq_true rfl) (by decide) (by decide) dX1_burn_125 ?_
        refine V_istore_n hC dX1_burn_128 (L' := [(3, .int (mn ((w - 8) + ((mxMelt f) / 4)) (mn fre bel))), (2, .int 0), (0, .ref a), (1, .int w)]) (by decide) rfl ?_
        refine V_aload_n hC dX1_burn_129 2 rfl ?_
        refine V_dup hC dX1_burn_130 rfl ?_
        refine V_get hC dX1_burn_131 inAX1 (mem_at 0 0 rfl rfl) rfl 4 (by decide) q108 rfl (v := .int fre) rfl ?_
        refine V_iload_n hC dX1_burn_134 0 rfl ?_
        refine V_isub hC dX1_burn_135 ?_
        refine V_put hC dX1_burn_136 inAX1 tyX1 tyX1_ok nmX1 0 0 rfl rfl rfl 4 (by decide) q108 rfl rfl (rfl) (rfl) (Nat.le_of_ble_eq_true rfl) (ps' := [[(a, .inr (2, [.int pr, .ref mi, .ref pb, .int raw, .int (fre - (mn ((w - 8) + ((mxMelt f) / 4)) (mn fre bel))), .int sand, .int bel, .int al]))], [(mi, .inr (5, [.ref am]))], [(am, .inl (G.2.1 0, 4, .inl f))], [(pb, .inl (G.2.1 0, 6, .inl g))]]) rfl ?_
        refine V_aload_n hC dX1_burn_139 2 rfl ?_
        refine V_dup hC dX1_burn_140 rfl ?_
        refine V_get hC dX1_burn_141 inAX1 (mem_at 0 0 rfl rfl) rfl 6 (by decide) q112 rfl (v := .int bel) rfl ?_
        refine V_iload_n hC dX1_burn_144 0 rfl ?_
        refine V_isub hC dX1_burn_145 ?_
        refine V_put hC dX1_burn_146 inAX1 tyX1 tyX1_ok nmX1 0 0 rfl rfl rfl 6 (by decide) q112 rfl rfl (rfl) (rfl) (Nat.le_of_ble_eq_true rfl) (ps' := [[(a, .inr (2, [.int pr, .ref mi, .ref pb, .int raw, .int (fre - (mn ((w - 8) + ((mxMelt f) / 4)) (mn fre bel))), .int sand, .int (bel - (mn ((w - 8) + ((mxMelt f) / 4)) (mn fre bel))), .int al]))], [(mi, .inr (5, [.ref am]))], [(am, .inl (G.2.1 0, 4, .inl f))], [(pb, .inl (G.2.1 0, 6, .inl g))]]) rfl ?_
        refine V_aload_n hC dX1_burn_149 2 rfl ?_
        refine V_dup hC dX1_burn_150 rfl ?_
        refine V_get hC dX1_burn_151 inAX1 (mem_at 0 0 rfl rfl) rfl 7 (by decide) q114 rfl (v := .int al) rfl ?_
        refine V_iload_n hC dX1_burn_154 0 rfl ?_
        refine V_iadd hC dX1_burn_155 ?_
        refine V_put hC dX1_burn_156 inAX1 tyX1 tyX1_ok nmX1 0 0 rfl rfl rfl 7 (by decide) q114 rfl rfl (rfl) (rfl) (Nat.le_of_ble_eq_true rfl) (ps' := [[(a, .inr (2, [.int pr, .ref mi, .ref pb, .int raw, .int (fre - (mn ((w - 8) + ((mxMelt f) / 4)) (mn fre bel))), .int sand, .int (bel - (mn ((w - 8) + ((mxMelt f) / 4)) (mn fre bel))), .int (al + (mn ((w - 8) + ((mxMelt f) / 4)) (mn fre bel)))]))], [(mi, .inr (5, [.ref am]))], [(am, .inl (G.2.1 0, 4, .inl f))], [(pb, .inl (G.2.1 0, 6, .inl g))]]) rfl ?_
        refine V_iload_n hC dX1_burn_159 1 rfl ?_
        exact V_iret hC hQ hr [0, 1, 2, 3] (u := [[(a, .inr (2, [.int pr, .ref mi, .ref pb, .int raw, .int (fre - (mn ((w - 8) + ((mxMelt f) / 4)) (mn fre bel))), .int sand, .int (bel - (mn ((w - 8) + ((mxMelt f) / 4)) (mn fre bel))), .int (al + (mn ((w - 8) + ((mxMelt f) / 4)) (mn fre bel)))]))], [(mi, .inr (5, [.ref am]))], [(am, .inl (G.2.1 0, 4, .inl f))], [(pb, .inl (G.2.1 0, 6, .inl g))]]) (by decide) rfl (by decide) (by decide) dX1_burn_160 (⟨by simp [bnA, *], by simp [bnC1, bnC, bnFree2, bnB1, bnB, bnFree1, bnA, sub0, *]⟩)
    · refine V_iload_n hC dX1_burn_44 2 rfl ?_
      refine V_bipush hC dX1_burn_45 (v := 6) (by decide) ?_
      refine V_isub hC dX1_burn_47 ?_
      refine V_aload_n hC dX1_burn_48 1 rfl ?_
      refine V_get hC dX1_burn_49 inAX1 (mem_at 0 0 rfl rfl) rfl 4 (by decide) q108 rfl (v := .int fre) rfl ?_
      refine V_iconst hC dX1_burn_52 (v := 2) (by decide) ?_
      refine V_idiv hC dX1_burn_53 (by decide) ?_
      refine V_aload_n hC dX1_burn_54 1 rfl ?_
      refine V_get hC dX1_burn_55 inAX1 (mem_at 0 0 rfl rfl) rfl 5 (by decide) q110 rfl (v := .int sand) rfl ?_
      refine V_mmin hC q516 q424 q35 q425 (by decide) (Nat.le_of_ble_eq_true rfl) (by decide) (by decide) dX1_burn_58 ?_
      refine V_mmin hC q516 q424 q35 q425 (by decide) (Nat.le_of_ble_eq_true rfl) (by decide) (by decide) dX1_burn_61 ?_
      refine V_istore_n hC dX1_burn_64 (L' := [(3, .int (mn (w - 6) (mn (fre / 2) sand))), (2, .int 0), (0, .ref a), (1, .int w)]) (by decide) rfl ?_
      refine V_aload_n hC dX1_burn_65 2 rfl ?_
      refine V_dup hC dX1_burn_66 rfl ?_
      refine V_get hC dX1_burn_67 inAX1 (mem_at 0 0 rfl rfl) rfl 4 (by decide) q108 rfl (v := .int fre) rfl ?_
      refine V_iconst hC dX1_burn_70 (v := 2) (by decide) ?_
      refine V_iload_n hC dX1_burn_71 0 rfl ?_
      refine V_imul hC dX1_burn_72 ?_
      refine V_isub hC dX1_burn_73 ?_
      refine V_put hC dX1_burn_74 inAX1 tyX1 tyX1_ok nmX1 0 0 rfl rfl rfl 4 (by decide) q108 rfl rfl (rfl) (rfl) (Nat.le_of_ble_eq_true rfl) (ps' := [[(a, .inr (2, [.int pr, .ref mi, .ref pb, .int raw, .int (fre - (2 * (mn (w - 6) (mn (fre / 2) sand)))), .int sand, .int bel, .int al]))], [(mi, .inr (5, [.ref am]))], [(am, .inl (G.2.1 0, 4, .inl f))], [(pb, .inl (G.2.1 0, 6, .inl g))]]) rfl ?_
      refine V_aload_n hC dX1_burn_77 2 rfl ?_
      refine V_dup hC dX1_burn_78 rfl ?_
      refine V_get hC dX1_burn_79 inAX1 (mem_at 0 0 rfl rfl) rfl 5 (by decide) q110 rfl (v := .int sand) rfl ?_
      refine V_iload_n hC dX1_burn_82 0 rfl ?_
      refine V_isub hC dX1_burn_83 ?_
      refine V_put hC dX1_burn_84 inAX1 tyX1 tyX1_ok nmX1 0 0 rfl rfl rfl 5 (by decide) q110 rfl rfl (rfl) (rfl) (Nat.le_of_ble_eq_true rfl) (ps' := [[(a, .inr (2, [.int pr, .ref mi, .ref pb, .int raw, .int (fre - (2 * (mn (w - 6) (mn (fre / 2) sand)))), .int (sand - (mn (w - 6) (mn (fre / 2) sand))), .int bel, .int al]))], [(mi, .inr (5, [.ref am]))], [(am, .inl (G.2.1 0, 4, .inl f))], [(pb, .inl (G.2.1 0, 6, .inl g))]]) rfl ?_
      refine V_aload_n hC dX1_burn_87 2 rfl ?_
      refine V_dup hC dX1_burn_88 rfl ?_
      refine V_get hC dX1_burn_89 inAX1 (mem_at 0 0 rfl rfl) rfl 6 (by decide) q112 rfl (v := .int bel) rfl ?_
      refine V_iload_n hC dX1_burn_92 0 rfl ?_
      refine V_iadd hC dX1_burn_93 ?_
      refine V_put hC dX1_burn_94 inAX1 tyX1 tyX1_ok nmX1 0 0 rfl rfl rfl 6 (by decide) q112 rfl rfl (rfl) (rfl) (Nat.le_of_ble_eq_true rfl) (ps' := [[(a, .inr (2, [.int pr, .ref mi, .ref pb, .int raw, .int (fre - (2 * (mn (w - 6) (mn (fre / 2) sand)))), .int (sand - (mn (w - 6) (mn (fre / 2) sand))), .int (bel + (mn (w - 6) (mn (fre / 2) sand))), .int al]))], [(mi, .inr (5, [.ref am]))], [(am, .inl (G.2.1 0, 4, .inl f))], [(pb, .inl (G.2.1 0, 6, .inl g))]]) rfl ?_
      refine V_iload_n hC dX1_burn_97 3 rfl ?_
      refine V_bipush hC dX1_burn_98 (v := 9) (by decide) ?_
      refine V_icmp_lt hC dX1_burn_100 (tgt := 159) (by decide) (fun h4 => ?_) (fun h4 => ?_)
      · refine V_iload_n hC dX1_burn_159 1 rfl ?_
        exact V_iret hC hQ hr [0, 1, 2, 3] (u := [[(a, .inr (2, [.int pr, .ref mi, .ref pb, .int raw, .int (fre - (2 * (mn (w - 6) (mn (fre / 2) sand)))), .int (sand - (mn (w - 6) (mn (fre / 2) sand))), .int (bel + (mn (w - 6) (mn (fre / 2) sand))), .int al]))], [(mi, .inr (5, [.ref am]))], [(am, .inl (G.2.1 0, 4, .inl f))], [(pb, .inl (G.2.1 0, 6, .inl g))]]) (by decide) rfl (by decide) (by decide) dX1_burn_160 (⟨by simp [bnA, *], by simp [bnC1, bnC, bnFree2, bnB1, bnB, bnFree1, bnA, sub0, *]⟩)
      · refine V_iload_n hC dX1_burn_103 3 rfl ?_
        refine V_bipush hC dX1_burn_104 (v := 8) (by decide) ?_
        refine V_isub hC dX1_burn_106 ?_
        refine V_aload_n hC dX1_burn_107 2 rfl ?_
        refine V_calli hC (V_runV hC (rest := [.int (w - 8)]) [] (c_X1_melt l G a mi pb am pr raw (fre - (2 * (mn (w - 6) (mn (fre / 2) sand)))) (sand - (mn (w - 6) (mn (fre / 2) sand))) (bel + (mn (w - 6) (mn (fre / 2) sand))) al f g) [0, 1, 2, 3] rfl (by decide) q517 q518 q519 q24 q520 ⟨by decide, by decide, rfl⟩ ⟨by decide, by decide⟩ (ci := 2) rfl (mem_at 0 0 rfl rfl) rfl (Nat.le_of_ble_eq_true rfl) ⟨by decide, by decide⟩ dX1_burn_108) (is := [0, 1, 2, 3]) rfl [] (rs := []) rfl (by decide) (by decide) ?_
        rintro _ _ ⟨rfl, rfl⟩
        refine V_iconst hC dX1_burn_111 (v := 4) (by decide) ?_
        refine V_idiv hC dX1_burn_112 (by decide) ?_
        refine V_iadd hC dX1_burn_113 ?_
        refine V_aload_n hC dX1_burn_114 2 rfl ?_
        refine V_get hC dX1_burn_115 inAX1 (mem_at 0 0 rfl rfl) rfl 4 (by decide) q108 rfl (v := .int (fre - (2 * (mn (w - 6) (mn (fre / 2) sand))))) rfl ?_
        refine V_aload_n hC dX1_burn_118 2 rfl ?_
        refine V_get hC dX1_burn_119 inAX1 (mem_at 0 0 rfl rfl) rfl 6 (by decide) q112 rfl (v := .int (bel + (mn (w - 6) (mn (fre / 2) sand)))) rfl ?_
        refine V_mmin hC q516 q424 q35 q425 (by decide) (Nat.le_of_ble_eq_true rfl) (by decide) (by decide) dX1_burn_122 ?_
        refine V_mmin hC q516 q424 q35 q425 (by decide) (Nat.le_of_ble_eq_true rfl) (by decide) (by decide) dX1_burn_125 ?_
        refine V_istore_n hC dX1_burn_128 (L' := [(3, .int (mn ((w - 8) + ((mxMelt f) / 4)) (mn (fre - (2 * (mn (w - 6) (mn (fre / 2) sand)))) (bel + (mn (w - 6) (mn (fre / 2) sand)))))), (2, .int 0), (0, .ref a), (1, .int w)]) (by decide) rfl ?_
        refine V_aload_n hC dX1_burn_129 2 rfl ?_
        refine V_dup hC dX1_burn_130 rfl ?_
        refine V_get hC dX1_burn_131 inAX1 (mem_at 0 0 rfl rfl) rfl 4 (by decide) q108 rfl (v := .int (fre - (2 * (mn (w - 6) (mn (fre / 2) sand))))) rfl ?_
        refine V_iload_n hC dX1_burn_134 0 rfl ?_
        refine V_isub hC dX1_burn_135 ?_
        refine V_put hC dX1_burn_136 inAX1 tyX1 tyX1_ok nmX1 0 0 rfl rfl rfl 4 (by decide) q108 rfl rfl (rfl) (rfl) (Nat.le_of_ble_eq_true rfl) (ps' := [[(a, .inr (2, [.int pr, .ref mi, .ref pb, .int raw, .int ((fre - (2 * (mn (w - 6) (mn (fre / 2) sand)))) - (mn ((w - 8) + ((mxMelt f) / 4)) (mn (fre - (2 * (mn (w - 6) (mn (fre / 2) sand)))) (bel + (mn (w - 6) (mn (fre / 2) sand)))))), .int (sand - (mn (w - 6) (mn (fre / 2) sand))), .int (bel + (mn (w - 6) (mn (fre / 2) sand))), .int al]))], [(mi, .inr (5, [.ref am]))], [(am, .inl (G.2.1 0, 4, .inl f))], [(pb, .inl (G.2.1 0, 6, .inl g))]]) rfl ?_
        refine V_aload_n hC dX1_burn_139 2 rfl ?_
        refine V_dup hC dX1_burn_140 rfl ?_
        refine V_get hC dX1_burn_141 inAX1 (mem_at 0 0 rfl rfl) rfl 6 (by decide) q112 rfl (v := .int (bel + (mn (w - 6) (mn (fre / 2) sand)))) rfl ?_
        refine V_iload_n hC dX1_burn_144 0 rfl ?_
        refine V_isub hC dX1_burn_145 ?_
        refine V_put hC dX1_burn_146 inAX1 tyX1 tyX1_ok nmX1 0 0 rfl rfl rfl 6 (by decide) q112 rfl rfl (rfl) (rfl) (Nat.le_of_ble_eq_true rfl) (ps' := [[(a, .inr (2, [.int pr, .ref mi, .ref pb, .int raw, .int ((fre - (2 * (mn (w - 6) (mn (fre / 2) sand)))) - (mn ((w - 8) + ((mxMelt f) / 4)) (mn (fre - (2 * (mn (w - 6) (mn (fre / 2) sand)))) (bel + (mn (w - 6) (mn (fre / 2) sand)))))), .int (sand - (mn (w - 6) (mn (fre / 2) sand))), .int ((bel + (mn (w - 6) (mn (fre / 2) sand))) - (mn ((w - 8) + ((mxMelt f) / 4)) (mn (fre - (2 * (mn (w - 6) (mn (fre / 2) sand)))) (bel + (mn (w - 6) (mn (fre / 2) sand)))))), .int al]))], [(mi, .inr (5, [.ref am]))], [(am, .inl (G.2.1 0, 4, .inl f))], [(pb, .inl (G.2.1 0, 6, .inl g))]]) rfl ?_
        refine V_aload_n hC dX1_burn_149 2 rfl ?_
        refine V_dup hC dX1_burn_150 rfl ?_
        refine V_get hC dX1_burn_151 inAX1 (mem_at 0 0 rfl rfl) rfl 7 (by decide) q114 rfl (v := .int al) rfl ?_
        refine V_iload_n hC dX1_burn_154 0 rfl ?_
        refine V_iadd hC dX1_burn_155 ?_
        refine V_put hC dX1_burn_156 inAX1 tyX1 tyX1_ok nmX1 0 0 rfl rfl rfl 7 (by decide) q114 rfl rfl (rfl) (rfl) (Nat.le_of_ble_eq_true rfl) (ps' := [[(a, .inr (2, [.int pr, .ref mi, .ref pb, .int raw, .int ((fre - (2 * (mn (w - 6) (mn (fre / 2) sand)))) - (mn ((w - 8) + ((mxMelt f) / 4)) (mn (fre - (2 * (mn (w - 6) (mn (fre / 2) sand)))) (bel + (mn (w - 6) (mn (fre / 2) sand)))))), .int (sand - (mn (w - 6) (mn (fre / 2) sand))), .int ((bel + (mn (w - 6) (mn (fre / 2) sand))) - (mn ((w - 8) + ((mxMelt f) / 4)) (mn (fre - (2 * (mn (w - 6) (mn (fre / 2) sand)))) (bel + (mn (w - 6) (mn (fre / 2) sand)))))), .int (al + (mn ((w - 8) + ((mxMelt f) / 4)) (mn (fre - (2 * (mn (w - 6) (mn (fre / 2) sand)))) (bel + (mn (w - 6) (mn (fre / 2) sand))))))]))], [(mi, .inr (5, [.ref am]))], [(am, .inl (G.2.1 0, 4, .inl f))], [(pb, .inl (G.2.1 0, 6, .inl g))]]) rfl ?_
        refine V_iload_n hC dX1_burn_159 1 rfl ?_
        exact V_iret hC hQ hr [0, 1, 2, 3] (u := [[(a, .inr (2, [.int pr, .ref mi, .ref pb, .int raw, .int ((fre - (2 * (mn (w - 6) (mn (fre / 2) sand)))) - (mn ((w - 8) + ((mxMelt f) / 4)) (mn (fre - (2 * (mn (w - 6) (mn (fre / 2) sand)))) (bel + (mn (w - 6) (mn (fre / 2) sand)))))), .int (sand - (mn (w - 6) (mn (fre / 2) sand))), .int ((bel + (mn (w - 6) (mn (fre / 2) sand))) - (mn ((w - 8) + ((mxMelt f) / 4)) (mn (fre - (2 * (mn (w - 6) (mn (fre / 2) sand)))) (bel + (mn (w - 6) (mn (fre / 2) sand)))))), .int (al + (mn ((w - 8) + ((mxMelt f) / 4)) (mn (fre - (2 * (mn (w - 6) (mn (fre / 2) sand)))) (bel + (mn (w - 6) (mn (fre / 2) sand))))))]))], [(mi, .inr (5, [.ref am]))], [(am, .inl (G.2.1 0, 4, .inl f))], [(pb, .inl (G.2.1 0, 6, .inl g))]]) (by decide) rfl (by decide) (by decide) dX1_burn_160 (⟨by simp [bnA, *], by simp [bnC1, bnC, bnFree2, bnB1, bnB, bnFree1, bnA, sub0, *]⟩)
  · refine V_aload_n hC dX1_burn_7 1 rfl ?_
    refine V_get hC dX1_burn_8 inAX1 (mem_at 0 0 rfl rfl) rfl 3 (by decide) q105 rfl (v := .int raw) rfl ?_
    refine V_iload_n hC dX1_burn_11 2 rfl ?_
    refine V_iconst hC dX1_burn_12 (v := 4) (by decide) ?_
    refine V_isub hC dX1_burn_13 ?_
    refine V_mmin hC q516 q424 q35 q425 (by decide) (Nat.le_of_ble_eq_true rfl) (by decide) (by decide) dX1_burn_14 ?_
    refine V_istore_n hC dX1_burn_17 (L' := [(2, .int (mn raw (w - 4))), (0, .ref a), (1, .int w)]) (by decide) rfl ?_
    refine V_aload_n hC dX1_burn_18 1 rfl ?_
    refine V_dup hC dX1_burn_19 rfl ?_
    refine V_get hC dX1_burn_20 inAX1 (mem_at 0 0 rfl rfl) rfl 3 (by decide) q105 rfl (v := .int raw) rfl ?_
    refine V_iload_n hC dX1_burn_23 0 rfl ?_
    refine V_isub hC dX1_burn_24 ?_
    refine V_put hC dX1_burn_25 inAX1 tyX1 tyX1_ok nmX1 0 0 rfl rfl rfl 3 (by decide) q105 rfl rfl (rfl) (rfl) (Nat.le_of_ble_eq_true rfl) (ps' := [[(a, .inr (2, [.int pr, .ref mi, .ref pb, .int (raw - (mn raw (w - 4))), .int fre, .int sand, .int bel, .int al]))], [(mi, .inr (5, [.ref am]))], [(am, .inl (G.2.1 0, 4, .inl f))], [(pb, .inl (G.2.1 0, 6, .inl g))]]) rfl ?_
    refine V_aload_n hC dX1_burn_28 1 rfl ?_
    refine V_dup hC dX1_burn_29 rfl ?_
    refine V_get hC dX1_burn_30 inAX1 (mem_at 0 0 rfl rfl) rfl 4 (by decide) q108 rfl (v := .int fre) rfl ?_
    refine V_iload_n hC dX1_burn_33 0 rfl ?_
    refine V_iadd hC dX1_burn_34 ?_
    refine V_put hC dX1_burn_35 inAX1 tyX1 tyX1_ok nmX1 0 0 rfl rfl rfl 4 (by decide) q108 rfl rfl (rfl) (rfl) (Nat.le_of_ble_eq_true rfl) (ps' := [[(a, .inr (2, [.int pr, .ref mi, .ref pb, .int (raw - (mn raw (w - 4))), .int (fre + (mn raw (w - 4))), .int sand, .int bel, .int al]))], [(mi, .inr (5, [.ref am]))], [(am, .inl (G.2.1 0, 4, .inl f))], [(pb, .inl (G.2.1 0, 6, .inl g))]]) rfl ?_
    refine V_iload_n hC dX1_burn_38 2 rfl ?_
    refine V_bipush hC dX1_burn_39 (v := 7) (by decide) ?_
    refine V_icmp_lt hC dX1_burn_41 (tgt := 97) (by decide) (fun h5 => ?_) (fun h5 => ?_)
    · refine V_iload_n hC dX1_burn_97 2 rfl ?_
      refine V_bipush hC dX1_burn_98 (v := 9) (by decide) ?_
      refine V_icmp_lt hC dX1_burn_100 (tgt := 159) (by decide) (fun h6 => ?_) (fun h6 => ?_)
      · refine V_iload_n hC dX1_burn_159 0 rfl ?_
        exact V_iret hC hQ hr [0, 1, 2, 3] (u := [[(a, .inr (2, [.int pr, .ref mi, .ref pb, .int (raw - (mn raw (w - 4))), .int (fre + (mn raw (w - 4))), .int sand, .int bel, .int al]))], [(mi, .inr (5, [.ref am]))], [(am, .inl (G.2.1 0, 4, .inl f))], [(pb, .inl (G.2.1 0, 6, .inl g))]]) (by decide) rfl (by decide) (by decide) dX1_burn_160 (⟨by simp [bnA, *], by simp [bnC1, bnC, bnFree2, bnB1, bnB, bnFree1, bnA, sub0, *]⟩)
      · refine V_iload_n hC dX1_burn_103 2 rfl ?_
        refine V_bipush hC dX1_burn_104 (v := 8) (by decide) ?_
        refine V_isub hC dX1_burn_106 ?_
        refine V_aload_n hC dX1_burn_107 1 rfl ?_
        refine V_calli hC (V_runV hC (rest := [.int (w - 8)]) [] (c_X1_melt l G a mi pb am pr (raw - (mn raw (w - 4))) (fre + (mn raw (w - 4))) sand bel al f g) [0, 1, 2, 3] rfl (by decide) q517 q518 q519 q24 q520 ⟨by decide, by decide, rfl⟩ ⟨by decide, by decide⟩ (ci := 2) rfl (mem_at 0 0 rfl rfl) rfl (Nat.le_of_ble_eq_true rfl) ⟨by decide, by decide⟩ dX1_burn_108) (is := [0, 1, 2, 3]) rfl [] (rs := []) rfl (by decide) (by decide) ?_
        rintro _ _ ⟨rfl, rfl⟩
        refine V_iconst hC dX1_burn_111 (v := 4) (by decide) ?_
        refine V_idiv hC dX1_burn_112 (by decide) ?_
        refine V_iadd hC dX1_burn_113 ?_
        refine V_aload_n hC dX1_burn_114 1 rfl ?_
        refine V_get hC dX1_burn_115 inAX1 (mem_at 0 0 rfl rfl) rfl 4 (by decide) q108 rfl (v := .int (fre + (mn raw (w - 4)))) rfl ?_
        refine V_aload_n hC dX1_burn_118 1 rfl ?_
        refine V_get hC dX1_burn_119 inAX1 (mem_at 0 0 rfl rfl) rfl 6 (by decide) q112 rfl (v := .int bel) rfl ?_
        refine V_mmin hC q516 q424 q35 q425 (by decide) (Nat.le_of_ble_eq_true rfl) (by decide) (by decide) dX1_burn_122 ?_
        refine V_mmin hC q516 q424 q35 q425 (by decide) (Nat.le_of_ble_eq_true rfl) (by decide) (by decide) dX1_burn_125 ?_
        refine V_istore_n hC dX1_burn_128 (L' := [(3, .int (mn ((w - 8) + ((mxMelt f) / 4)) (mn (fre + (mn raw (w - 4))) bel))), (2, .int (mn raw (w - 4))), (0, .ref a), (1, .int w)]) (by decide) rfl ?_
        refine V_aload_n hC dX1_burn_129 2 rfl ?_
        refine V_dup hC dX1_burn_130 rfl ?_
        refine V_get hC dX1_burn_131 inAX1 (mem_at 0 0 rfl rfl) rfl 4 (by decide) q108 rfl (v := .int (fre + (mn raw (w - 4)))) rfl ?_
        refine V_iload_n hC dX1_burn_134 0 rfl ?_
        refine V_isub hC dX1_burn_135 ?_
        refine V_put hC dX1_burn_136 inAX1 tyX1 tyX1_ok nmX1 0 0 rfl rfl rfl 4 (by decide) q108 rfl rfl (rfl) (rfl) (Nat.le_of_ble_eq_true rfl) (ps' := [[(a, .inr (2, [.int pr, .ref mi, .ref pb, .int (raw - (mn raw (w - 4))), .int ((fre + (mn raw (w - 4))) - (mn ((w - 8) + ((mxMelt f) / 4)) (mn (fre + (mn raw (w - 4))) bel))), .int sand, .int bel, .int al]))], [(mi, .inr (5, [.ref am]))], [(am, .inl (G.2.1 0, 4, .inl f))], [(pb, .inl (G.2.1 0, 6, .inl g))]]) rfl ?_
        refine V_aload_n hC dX1_burn_139 2 rfl ?_
        refine V_dup hC dX1_burn_140 rfl ?_
        refine V_get hC dX1_burn_141 inAX1 (mem_at 0 0 rfl rfl) rfl 6 (by decide) q112 rfl (v := .int bel) rfl ?_
        refine V_iload_n hC dX1_burn_144 0 rfl ?_
        refine V_isub hC dX1_burn_145 ?_
        refine V_put hC dX1_burn_146 inAX1 tyX1 tyX1_ok nmX1 0 0 rfl rfl rfl 6 (by decide) q112 rfl rfl (rfl) (rfl) (Nat.le_of_ble_eq_true rfl) (ps' := [[(a, .inr (2, [.int pr, .ref mi, .ref pb, .int (raw - (mn raw (w - 4))), .int ((fre + (mn raw (w - 4))) - (mn ((w - 8) + ((mxMelt f) / 4)) (mn (fre + (mn raw (w - 4))) bel))), .int sand, .int (bel - (mn ((w - 8) + ((mxMelt f) / 4)) (mn (fre + (mn raw (w - 4))) bel))), .int al]))], [(mi, .inr (5, [.ref am]))], [(am, .inl (G.2.1 0, 4, .inl f))], [(pb, .inl (G.2.1 0, 6, .inl g))]]) rfl ?_
        refine V_aload_n hC dX1_burn_149 2 rfl ?_
        refine V_dup hC dX1_burn_150 rfl ?_
        refine V_get hC dX1_burn_151 inAX1 (mem_at 0 0 rfl rfl) rfl 7 (by decide) q114 rfl (v := .int al) rfl ?_
        refine V_iload_n hC dX1_burn_154 0 rfl ?_
        refine V_iadd hC dX1_burn_155 ?_
        refine V_put hC dX1_burn_156 inAX1 tyX1 tyX1_ok nmX1 0 0 rfl rfl rfl 7 (by decide) q114 rfl rfl (rfl) (rfl) (Nat.le_of_ble_eq_true rfl) (ps' := [[(a, .inr (2, [.int pr, .ref mi, .ref pb, .int (raw - (mn raw (w - 4))), .int ((fre + (mn raw (w - 4))) - (mn ((w - 8) + ((mxMelt f) / 4)) (mn (fre + (mn raw (w - 4))) bel))), .int sand, .int (bel - (mn ((w - 8) + ((mxMelt f) / 4)) (mn (fre + (mn raw (w - 4))) bel))), .int (al + (mn ((w - 8) + ((mxMelt f) / 4)) (mn (fre + (mn raw (w - 4))) bel)))]))], [(mi, .inr (5, [.ref am]))], [(am, .inl (G.2.1 0, 4, .inl f))], [(pb, .inl (G.2.1 0, 6, .inl g))]]) rfl ?_
        refine V_iload_n hC dX1_burn_159 1 rfl ?_
        exact V_iret hC hQ hr [0, 1, 2, 3] (u := [[(a, .inr (2, [.int pr, .ref mi, .ref pb, .int (raw - (mn raw (w - 4))), .int ((fre + (mn raw (w - 4))) - (mn ((w - 8) + ((mxMelt f) / 4)) (mn (fre + (mn raw (w - 4))) bel))), .int sand, .int (bel - (mn ((w - 8) + ((mxMelt f) / 4)) (mn (fre + (mn raw (w - 4))) bel))), .int (al + (mn ((w - 8) + ((mxMelt f) / 4)) (mn (fre + (mn raw (w - 4))) bel)))]))], [(mi, .inr (5, [.ref am]))], [(am, .inl (G.2.1 0, 4, .inl f))], [(pb, .inl (G.2.1 0, 6, .inl g))]]) (by decide) rfl (by decide) (by decide) dX1_burn_160 (⟨by simp [bnA, *], by simp [bnC1, bnC, bnFree2, bnB1, bnB, bnFree1, bnA, sub0, *]⟩)
    · refine V_iload_n hC dX1_burn_44 2 rfl ?_
      refine V_bipush hC dX1_burn_45 (v := 6) (by decide) ?_
      refine V_isub hC dX1_burn_47 ?_
      refine V_aload_n hC dX1_burn_48 1 rfl ?_
      refine V_get hC dX1_burn_49 inAX1 (mem_at 0 0 rfl rfl) rfl 4 (by decide) q108 rfl (v := .int (fre + (mn raw (w - 4)))) rfl ?_
      refine V_iconst hC dX1_burn_52 (v := 2) (by decide) ?_
      refine V_idiv hC dX1_burn_53 (by decide) ?_
      refine V_aload_n hC dX1_burn_54 1 rfl ?_
      refine V_get hC dX1_burn_55 inAX1 (mem_at 0 0 rfl rfl) rfl 5 (by decide) q110 rfl (v := .int sand) rfl ?_
      refine V_mmin hC q516 q424 q35 q425 (by decide) (Nat.le_of_ble_eq_true rfl) (by decide) (by decide) dX1_burn_58 ?_
      refine V_mmin hC q516 q424 q35 q425 (by decide) (Nat.le_of_ble_eq_true rfl) (by decide) (by decide) dX1_burn_61 ?_
      refine V_istore_n hC dX1_burn_64 (L' := [(3, .int (mn (w - 6) (mn ((fre + (mn raw (w - 4))) / 2) sand))), (2, .int (mn raw (w - 4))), (0, .ref a), (1, .int w)]) (by decide) rfl ?_
      refine V_aload_n hC dX1_burn_65 2 rfl ?_
      refine V_dup hC dX1_burn_66 rfl ?_
      refine V_get hC dX1_burn_67 inAX1 (mem_at 0 0 rfl rfl) rfl 4 (by decide) q108 rfl (v := .int (fre + (mn raw (w - 4)))) rfl ?_
      refine V_iconst hC dX1_burn_70 (v := 2) (by decide) ?_
      refine V_iload_n hC dX1_burn_71 0 rfl ?_
      refine V_imul hC dX1_burn_72 ?_
      refine V_isub hC dX1_burn_73 ?_
      refine V_put hC dX1_burn_74 inAX1 tyX1 tyX1_ok nmX1 0 0 rfl rfl rfl 4 (by decide) q108 rfl rfl (rfl) (rfl) (Nat.le_of_ble_eq_true rfl) (ps' := [[(a, .inr (2, [.int pr, .ref mi, .ref pb, .int (raw - (mn raw (w - 4))), .int ((fre + (mn raw (w - 4))) - (2 * (mn (w - 6) (mn ((fre + (mn raw (w - 4))) / 2) sand)))), .int sand, .int bel, .int al]))], [(mi, .inr (5, [.ref am]))], [(am, .inl (G.2.1 0, 4, .inl f))], [(pb, .inl (G.2.1 0, 6, .inl g))]]) rfl ?_
      refine V_aload_n hC dX1_burn_77 2 rfl ?_
      refine V_dup hC dX1_burn_78 rfl ?_
      refine V_get hC dX1_burn_79 inAX1 (mem_at 0 0 rfl rfl) rfl 5 (by decide) q110 rfl (v := .int sand) rfl ?_
      refine V_iload_n hC dX1_burn_82 0 rfl ?_
      refine V_isub hC dX1_burn_83 ?_
      refine V_put hC dX1_burn_84 inAX1 tyX1 tyX1_ok nmX1 0 0 rfl rfl rfl 5 (by decide) q110 rfl rfl (rfl) (rfl) (Nat.le_of_ble_eq_true rfl) (ps' := [[(a, .inr (2, [.int pr, .ref mi, .ref pb, .int (raw - (mn raw (w - 4))), .int ((fre + (mn raw (w - 4))) - (2 * (mn (w - 6) (mn ((fre + (mn raw (w - 4))) / 2) sand)))), .int (sand - (mn (w - 6) (mn ((fre + (mn raw (w - 4))) / 2) sand))), .int bel, .int al]))], [(mi, .inr (5, [.ref am]))], [(am, .inl (G.2.1 0, 4, .inl f))], [(pb, .inl (G.2.1 0, 6, .inl g))]]) rfl ?_
      refine V_aload_n hC dX1_burn_87 2 rfl ?_
      refine V_dup hC dX1_burn_88 rfl ?_
      refine V_get hC dX1_burn_89 inAX1 (mem_at 0 0 rfl rfl) rfl 6 (by decide) q112 rfl (v := .int bel) rfl ?_
      refine V_iload_n hC dX1_burn_92 0 rfl ?_
      refine V_iadd hC dX1_burn_93 ?_
      refine V_put hC dX1_burn_94 inAX1 tyX1 tyX1_ok nmX1 0 0 rfl rfl rfl 6 (by decide) q112 rfl rfl (rfl) (rfl) (Nat.le_of_ble_eq_true rfl) (ps' := [[(a, .inr (2, [.int pr, .ref mi, .ref pb, .int (raw - (mn raw (w - 4))), .int ((fre + (mn raw (w - 4))) - (2 * (mn (w - 6) (mn ((fre + (mn raw (w - 4))) / 2) sand)))), .int (sand - (mn (w - 6) (mn ((fre + (mn raw (w - 4))) / 2) sand))), .int (bel + (mn (w - 6) (mn ((fre + (mn raw (w - 4))) / 2) sand))), .int al]))], [(mi, .inr (5, [.ref am]))], [(am, .inl (G.2.1 0, 4, .inl f))], [(pb, .inl (G.2.1 0, 6, .inl g))]]) rfl ?_
      refine V_iload_n hC dX1_burn_97 3 rfl ?_
      refine V_bipush hC dX1_burn_98 (v := 9) (by decide) ?_
      refine V_icmp_lt hC dX1_burn_100 (tgt := 159) (by decide) (fun h7 => ?_) (fun h7 => ?_)
      · refine V_iload_n hC dX1_burn_159 1 rfl ?_
        exact V_iret hC hQ hr [0, 1, 2, 3] (u := [[(a, .inr (2, [.int pr, .ref mi, .ref pb, .int (raw - (mn raw (w - 4))), .int ((fre + (mn raw (w - 4))) - (2 * (mn (w - 6) (mn ((fre + (mn raw (w - 4))) / 2) sand)))), .int (sand - (mn (w - 6) (mn ((fre + (mn raw (w - 4))) / 2) sand))), .int (bel + (mn (w - 6) (mn ((fre + (mn raw (w - 4))) / 2) sand))), .int al]))], [(mi, .inr (5, [.ref am]))], [(am, .inl (G.2.1 0, 4, .inl f))], [(pb, .inl (G.2.1 0, 6, .inl g))]]) (by decide) rfl (by decide) (by decide) dX1_burn_160 (⟨by simp [bnA, *], by simp [bnC1, bnC, bnFree2, bnB1, bnB, bnFree1, bnA, sub0, *]⟩)
      · refine V_iload_n hC dX1_burn_103 3 rfl ?_
        refine V_bipush hC dX1_burn_104 (v := 8) (by decide) ?_
        refine V_isub hC dX1_burn_106 ?_
        refine V_aload_n hC dX1_burn_107 2 rfl ?_
        refine V_calli hC (V_runV hC (rest := [.int (w - 8)]) [] (c_X1_melt l G a mi pb am pr (raw - (mn raw (w - 4))) ((fre + (mn raw (w - 4))) - (2 * (mn (w - 6) (mn ((fre + (mn raw (w - 4))) / 2) sand)))) (sand - (mn (w - 6) (mn ((fre + (mn raw (w - 4))) / 2) sand))) (bel + (mn (w - 6) (mn ((fre + (mn raw (w - 4))) / 2) sand))) al f g) [0, 1, 2, 3] rfl (by decide) q517 q518 q519 q24 q520 ⟨by decide, by decide, rfl⟩ ⟨by decide, by decide⟩ (ci := 2) rfl (mem_at 0 0 rfl rfl) rfl (Nat.le_of_ble_eq_true rfl) ⟨by decide, by decide⟩ dX1_burn_108) (is := [0, 1, 2, 3]) rfl [] (rs := []) rfl (by decide) (by decide) ?_
        rintro _ _ ⟨rfl, rfl⟩
        refine V_iconst hC dX1_burn_111 (v := 4) (by decide) ?_
        refine V_idiv hC dX1_burn_112 (by decide) ?_
        refine V_iadd hC dX1_burn_113 ?_
        refine V_aload_n hC dX1_burn_114 2 rfl ?_
        refine V_get hC dX1_burn_115 inAX1 (mem_at 0 0 rfl rfl) rfl 4 (by decide) q108 rfl (v := .int ((fre + (mn raw (w - 4))) - (2 * (mn (w - 6) (mn ((fre + (mn raw (w - 4))) / 2) sand))))) rfl ?_
        refine V_aload_n hC dX1_burn_118 2 rfl ?_
        refine V_get hC dX1_burn_119 inAX1 (mem_at 0 0 rfl rfl) rfl 6 (by decide) q112 rfl (v := .int (bel + (mn (w - 6) (mn ((fre + (mn raw (w - 4))) / 2) sand)))) rfl ?_
        refine V_mmin hC q516 q424 q35 q425 (by decide) (Nat.le_of_ble_eq_true rfl) (by decide) (by decide) dX1_burn_122 ?_
        refine V_mmin hC q516 q424 q35 q425 (by decide) (Nat.le_of_ble_eq_true rfl) (by decide) (by decide) dX1_burn_125 ?_
        refine V_istore_n hC dX1_burn_128 (L' := [(3, .int (mn ((w - 8) + ((mxMelt f) / 4)) (mn ((fre + (mn raw (w - 4))) - (2 * (mn (w - 6) (mn ((fre + (mn raw (w - 4))) / 2) sand)))) (bel + (mn (w - 6) (mn ((fre + (mn raw (w - 4))) / 2) sand)))))), (2, .int (mn raw (w - 4))), (0, .ref a), (1, .int w)]) (by decide) rfl ?_
        refine V_aload_n hC dX1_burn_129 2 rfl ?_
        refine V_dup hC dX1_burn_130 rfl ?_
        refine V_get hC dX1_burn_131 inAX1 (mem_at 0 0 rfl rfl) rfl 4 (by decide) q108 rfl (v := .int ((fre + (mn raw (w - 4))) - (2 * (mn (w - 6) (mn ((fre + (mn raw (w - 4))) / 2) sand))))) rfl ?_
        refine V_iload_n hC dX1_burn_134 0 rfl ?_
        refine V_isub hC dX1_burn_135 ?_
        refine V_put hC dX1_burn_136 inAX1 tyX1 tyX1_ok nmX1 0 0 rfl rfl rfl 4 (by decide) q108 rfl rfl (rfl) (rfl) (Nat.le_of_ble_eq_true rfl) (ps' := [[(a, .inr (2, [.int pr, .ref mi, .ref pb, .int (raw - (mn raw (w - 4))), .int (((fre + (mn raw (w - 4))) - (2 * (mn (w - 6) (mn ((fre + (mn raw (w - 4))) / 2) sand)))) - (mn ((w - 8) + ((mxMelt f) / 4)) (mn ((fre + (mn raw (w - 4))) - (2 * (mn (w - 6) (mn ((fre + (mn raw (w - 4))) / 2) sand)))) (bel + (mn (w - 6) (mn ((fre + (mn raw (w - 4))) / 2) sand)))))), .int (sand - (mn (w - 6) (mn ((fre + (mn raw (w - 4))) / 2) sand))), .int (bel + (mn (w - 6) (mn ((fre + (mn raw (w - 4))) / 2) sand))), .int al]))], [(mi, .inr (5, [.ref am]))], [(am, .inl (G.2.1 0, 4, .inl f))], [(pb, .inl (G.2.1 0, 6, .inl g))]]) rfl ?_
        refine V_aload_n hC dX1_burn_139 2 rfl ?_
        refine V_dup hC dX1_burn_140 rfl ?_
        refine V_get hC dX1_burn_141 inAX1 (mem_at 0 0 rfl rfl) rfl 6 (by decide) q112 rfl (v := .int (bel + (mn (w - 6) (mn ((fre + (mn raw (w - 4))) / 2) sand)))) rfl ?_
        refine V_iload_n hC dX1_burn_144 0 rfl ?_
        refine V_isub hC dX1_burn_145 ?_
        refine V_put hC dX1_burn_146 inAX1 tyX1 tyX1_ok nmX1 0 0 rfl rfl rfl 6 (by decide) q112 rfl rfl (rfl) (rfl) (Nat.le_of_ble_eq_true rfl) (ps' := [[(a, .inr (2, [.int pr, .ref mi, .ref pb, .int (raw - (mn raw (w - 4))), .int (((fre + (mn raw (w - 4))) - (2 * (mn (w - 6) (mn ((fre + (mn raw (w - 4))) / 2) sand)))) - (mn ((w - 8) + ((mxMelt f) / 4)) (mn ((fre + (mn raw (w - 4))) - (2 * (mn (w - 6) (mn ((fre + (mn raw (w - 4))) / 2) sand)))) (bel + (mn (w - 6) (mn ((fre + (mn raw (w - 4))) / 2) sand)))))), .int (sand - (mn (w - 6) (mn ((fre + (mn raw (w - 4))) / 2) sand))), .int ((bel + (mn (w - 6) (mn ((fre + (mn raw (w - 4))) / 2) sand))) - (mn ((w - 8) + ((mxMelt f) / 4)) (mn ((fre + (mn raw (w - 4))) - (2 * (mn (w - 6) (mn ((fre + (mn raw (w - 4))) / 2) sand)))) (bel + (mn (w - 6) (mn ((fre + (mn raw (w - 4))) / 2) sand)))))), .int al]))], [(mi, .inr (5, [.ref am]))], [(am, .inl (G.2.1 0, 4, .inl f))], [(pb, .inl (G.2.1 0, 6, .inl g))]]) rfl ?_
        refine V_aload_n hC dX1_burn_149 2 rfl ?_
        refine V_dup hC dX1_burn_150 rfl ?_
        refine V_get hC dX1_burn_151 inAX1 (mem_at 0 0 rfl rfl) rfl 7 (by decide) q114 rfl (v := .int al) rfl ?_
        refine V_iload_n hC dX1_burn_154 0 rfl ?_
        refine V_iadd hC dX1_burn_155 ?_
        refine V_put hC dX1_burn_156 inAX1 tyX1 tyX1_ok nmX1 0 0 rfl rfl rfl 7 (by decide) q114 rfl rfl (rfl) (rfl) (Nat.le_of_ble_eq_true rfl) (ps' := [[(a, .inr (2, [.int pr, .ref mi, .ref pb, .int (raw - (mn raw (w - 4))), .int (((fre + (mn raw (w - 4))) - (2 * (mn (w - 6) (mn ((fre + (mn raw (w - 4))) / 2) sand)))) - (mn ((w - 8) + ((mxMelt f) / 4)) (mn ((fre + (mn raw (w - 4))) - (2 * (mn (w - 6) (mn ((fre + (mn raw (w - 4))) / 2) sand)))) (bel + (mn (w - 6) (mn ((fre + (mn raw (w - 4))) / 2) sand)))))), .int (sand - (mn (w - 6) (mn ((fre + (mn raw (w - 4))) / 2) sand))), .int ((bel + (mn (w - 6) (mn ((fre + (mn raw (w - 4))) / 2) sand))) - (mn ((w - 8) + ((mxMelt f) / 4)) (mn ((fre + (mn raw (w - 4))) - (2 * (mn (w - 6) (mn ((fre + (mn raw (w - 4))) / 2) sand)))) (bel + (mn (w - 6) (mn ((fre + (mn raw (w - 4))) / 2) sand)))))), .int (al + (mn ((w - 8) + ((mxMelt f) / 4)) (mn ((fre + (mn raw (w - 4))) - (2 * (mn (w - 6) (mn ((fre + (mn raw (w - 4))) / 2) sand)))) (bel + (mn (w - 6) (mn ((fre + (mn raw (w - 4))) / 2) sand))))))]))], [(mi, .inr (5, [.ref am]))], [(am, .inl (G.2.1 0, 4, .inl f))], [(pb, .inl (G.2.1 0, 6, .inl g))]]) rfl ?_
        refine V_iload_n hC dX1_burn_159 1 rfl ?_
        exact V_iret hC hQ hr [0, 1, 2, 3] (u := [[(a, .inr (2, [.int pr, .ref mi, .ref pb, .int (raw - (mn raw (w - 4))), .int (((fre + (mn raw (w - 4))) - (2 * (mn (w - 6) (mn ((fre + (mn raw (w - 4))) / 2) sand)))) - (mn ((w - 8) + ((mxMelt f) / 4)) (mn ((fre + (mn raw (w - 4))) - (2 * (mn (w - 6) (mn ((fre + (mn raw (w - 4))) / 2) sand)))) (bel + (mn (w - 6) (mn ((fre + (mn raw (w - 4))) / 2) sand)))))), .int (sand - (mn (w - 6) (mn ((fre + (mn raw (w - 4))) / 2) sand))), .int ((bel + (mn (w - 6) (mn ((fre + (mn raw (w - 4))) / 2) sand))) - (mn ((w - 8) + ((mxMelt f) / 4)) (mn ((fre + (mn raw (w - 4))) - (2 * (mn (w - 6) (mn ((fre + (mn raw (w - 4))) / 2) sand)))) (bel + (mn (w - 6) (mn ((fre + (mn raw (w - 4))) / 2) sand)))))), .int (al + (mn ((w - 8) + ((mxMelt f) / 4)) (mn ((fre + (mn raw (w - 4))) - (2 * (mn (w - 6) (mn ((fre + (mn raw (w - 4))) / 2) sand)))) (bel + (mn (w - 6) (mn ((fre + (mn raw (w - 4))) / 2) sand))))))]))], [(mi, .inr (5, [.ref am]))], [(am, .inl (G.2.1 0, 4, .inl f))], [(pb, .inl (G.2.1 0, 6, .inl g))]]) (by decide) rfl (by decide) (by decide) dX1_burn_160 (⟨by simp [bnA, *], by simp [bnC1, bnC, bnFree2, bnB1, bnB, bnFree1, bnA, sub0, *]⟩)
