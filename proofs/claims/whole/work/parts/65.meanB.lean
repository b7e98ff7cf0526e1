/-! ===== the mean ===== -/
def mnD (s : Int32) (n : Nat) : UInt64 := if n = 0 then 0 else FP.ddiv (FP.i2d s) (FP.i2d (nI n))
set_option maxHeartbeats 4000000 in
set_option maxRecDepth 100000 in
/-- ClinkerWorks$Window.mean -/
theorem c_X7_mean (l : Launch) (G : VG) (a so n : Nat) (std : Int32) (f : Nat → Int32) (hn : n ≤ 6) : Md l G yX7_mean cX7_mean 1 1 22 0 0 [.ref a] [[(a, .inr (8, [.ref so, .int (nI n), .int std]))], [(so, .inl (G.2.1 0, 6, .inl f))]] (fun r u => r = mnD (sm f n) n ∧ u = [[(a, .inr (8, [.ref so, .int (nI n), .int std]))], [(so, .inl (G.2.1 0, 6, .inl f))]]) := by
  refine Md_of (by decide) (Nat.le_of_ble_eq_true rfl) (fun pP eE sS mM aA bB tT cC AA QQ hC hr hnm hQ => ?_)
  refine V_aload_n hC dX7_mean_0 0 rfl ?_
  refine V_get hC dX7_mean_1 inAX7 (mem_at 0 0 rfl rfl) rfl 1 (by decide) q231 rfl (v := .int (nI n)) rfl ?_
  refine V_if_ne hC dX7_mean_4 (tgt := 11) (by decide) (fun h1 => ?_) (fun h1 => ?_)
  · have hn0 : ¬ n = 0 := by rintro e; exact h1 (by rw [e]; rfl)
    refine V_aload_n hC dX7_mean_11 0 rfl ?_
    refine V_calli hC (V_runV hC (rest := []) [] (c_X7_sum l G a so n std f hn) [0, 1] rfl (by decide) q365 q366 q367 q48 q368 ⟨by decide, by decide, rfl⟩ ⟨by decide, by decide⟩ (ci := 8) rfl (mem_at 0 0 rfl rfl) rfl (Nat.le_of_ble_eq_true rfl) ⟨by decide, by decide⟩ dX7_mean_12) (is := [0, 1]) rfl [] (rs := []) rfl (by decide) (by decide) ?_
    rintro _ _ ⟨rfl, rfl⟩
    refine V_i2d hC dX7_mean_15 ?_
    refine V_aload_n hC dX7_mean_16 0 rfl ?_
    refine V_get hC dX7_mean_17 inAX7 (mem_at 0 0 rfl rfl) rfl 1 (by decide) q231 rfl (v := .int (nI n)) rfl ?_
    refine V_i2d hC dX7_mean_20 ?_
    refine V_ddiv hC dX7_mean_21 (mean_ok (Nat.pos_of_ne_zero hn0) hn) ?_
    exact V_dret hC hQ hr [0, 1] (u := [[(a, .inr (8, [.ref so, .int (nI n), .int std]))], [(so, .inl (G.2.1 0, 6, .inl f))]]) (by decide) rfl (by decide) (by decide) dX7_mean_22 (⟨by unfold mnD; rw [if_neg hn0], rfl⟩)
  · have hn0 : n = 0 := nI_z h1 (by omega)
    refine V_dconst hC dX7_mean_7 ?_
    refine V_goto hC dX7_mean_8 (tgt := 22) (by decide) ?_
    exact V_dret hC hQ hr [0, 1] (u := [[(a, .inr (8, [.ref so, .int (nI n), .int std]))], [(so, .inl (G.2.1 0, 6, .inl f))]]) (by decide) rfl (by decide) (by decide) dX7_mean_22 (⟨by unfold mnD; rw [if_pos hn0], rfl⟩)
set_option maxHeartbeats 4000000 in
set_option maxRecDepth 100000 in
/-- ClinkerWorks.meanFound -/
theorem c_X8_meanFound (l : Launch) (G : VG) (X : Nat → Nat) (nb nl : Nat) (du mo cl : Int32) (wn : Nat) (ws : Int32) (wf : Nat → Int32) (hwn : wn ≤ 6) : Md l G yX8_meanFound cX8_meanFound 1 2 42 0 0 [.ref (X 0)] [[(X 0, .inr (9, [.ref (X 1), .int (nI nb), .ref (X 2), .ref (X 6), .ref (X 8), .ref (X 10), .ref (X 14), .ref (X 18), .int (nI nl), .int du, .ref (X 19), .int mo, .ref (X 20), .int cl]))], [(X 20, .inr (8, [.ref (X 21), .int (nI wn), .int ws]))], [(X 21, .inl (G.2.1 0, 6, .inl wf))]] (fun r u => r = mnD (sm wf wn) wn ∧ u = [[(X 0, .inr (9, [.ref (X 1), .int (nI nb), .ref (X 2), .ref (X 6), .ref (X 8), .ref (X 10), .ref (X 14), .ref (X 18), .int (nI nl), .int du, .ref (X 19), .int mo, .ref (X 20), .int cl]))], [(X 20, .inr (8, [.ref (X 21), .int (nI wn), .int ws]))], [(X 21, .inl (G.2.1 0, 6, .inl wf))]]) := by
  refine Md_of (by decide) (Nat.le_of_ble_eq_true rfl) (fun pP eE sS mM aA bB tT cC AA QQ hC hr hnm hQ => ?_)
  refine V_aload_n hC dX8_meanFound_0 0 rfl ?_
  refine V_get hC dX8_meanFound_1 inAX8 (mem_at 0 0 rfl rfl) rfl 12 (by decide) q322 rfl (v := .ref (X 20)) rfl ?_
  refine V_calld hC (V_runV hC (rest := []) [] (c_X7_mean l G (X 20) (X 21) wn ws wf hwn) [1, 2] rfl (by decide) q361 q362 q363 q48 q364 ⟨by decide, by decide, rfl⟩ ⟨by decide, by decide⟩ (ci := 8) rfl (mem_at 1 0 rfl rfl) rfl (Nat.le_of_ble_eq_true rfl) ⟨by decide, by decide⟩ dX8_meanFound_4) (is := [1, 2]) rfl [0] (rs := [[(X 0, .inr (9, [.ref (X 1), .int (nI nb), .ref (X 2), .ref (X 6), .ref (X 8), .ref (X 10), .ref (X 14), .ref (X 18), .int (nI nl), .int du, .ref (X 19), .int mo, .ref (X 20), .int cl]))]]) rfl (by decide) (by decide) ?_
  rintro _ _ ⟨rfl, rfl⟩
  exact V_dret hC hQ hr [2, 0, 1] (u := [[(X 0, .inr (9, [.ref (X 1), .int (nI nb), .ref (X 2), .ref (X 6), .ref (X 8), .ref (X 10), .ref (X 14), .ref (X 18), .int (nI nl), .int du, .ref (X 19), .int mo, .ref (X 20), .int cl]))], [(X 20, .inr (8, [.ref (X 21), .int (nI wn), .int ws]))], [(X 21, .inl (G.2.1 0, 6, .inl wf))]]) (by decide) rfl (by decide) (by decide) dX8_meanFound_7 (⟨rfl, rfl⟩)
set_option maxHeartbeats 4000000 in
set_option maxRecDepth 100000 in
/-- ClinkerWorksModel.meanFound -/
theorem c_X11_meanFound (l : Launch) (G : VG) (M : Nat → Nat) (th du mny cl ws : Int32) (nb ny fd aw al y : Nat) (wd : Nat → Int32) (hfd : fd < 2 ^ 31) : Md l G yX11_meanFound cX11_meanFound 1 3 55 0 0 [.ref (M 0)] [[(M 0, .inr (12, [.int th, .ref (M 1), .ref (M 2), .ref aw, .ref al, .ref (M 3), .ref (M 4), .ref (M 5), .ref (M 6), .ref y, .int (nI nb), .int (nI ny), .int du, .int mny, .int cl, .int (nI fd), .int ws]))], [(M 6, .inl (G.2.1 0, 6, .inl wd))]] (fun r u => r = mnD (sm wd (wnM fd)) (wnM fd) ∧ u = [[(M 0, .inr (12, [.int 0, .ref (M 1), .ref (M 2), .ref aw, .ref al, .ref (M 3), .ref (M 4), .ref (M 5), .ref (M 6), .ref y, .int (nI nb), .int (nI ny), .int du, .int mny, .int cl, .int (nI fd), .int ws]))], [(M 6, .inl (G.2.1 0, 6, .inl wd))]]) := by
  refine Md_of (by decide) (Nat.le_of_ble_eq_true rfl) (fun pP eE sS mM aA bB tT cC AA QQ hC hr hnm hQ => ?_)
  have hw6 : wnM fd ≤ 6 := Nat.min_le_left _ _
  refine V_aload_n hC dX11_meanFound_0 0 rfl ?_
  refine V_iconst hC dX11_meanFound_1 (v := 0) (by decide) ?_
  refine V_put hC dX11_meanFound_2 inAX11 tyX11 tyX11_ok nmX11 0 0 rfl rfl rfl 0 (by decide) q1078 rfl rfl (rfl) (rfl) (Nat.le_of_ble_eq_true rfl) (ps' := [[(M 0, .inr (12, [.int 0, .ref (M 1), .ref (M 2), .ref aw, .ref al, .ref (M 3), .ref (M 4), .ref (M 5), .ref (M 6), .ref y, .int (nI nb), .int (nI ny), .int du, .int mny, .int cl, .int (nI fd), .int ws]))], [(M 6, .inl (G.2.1 0, 6, .inl wd))]]) rfl ?_
  refine V_aload_n hC dX11_meanFound_5 0 rfl ?_
  refine V_calli hC (V_runV hC (rest := []) [] (c_X11_inWindow l G M 0 du mny cl ws nb ny fd aw al y hfd) [0] rfl (by decide) q1396 q1398 q32 q52 q1399 ⟨by decide, by decide, rfl⟩ ⟨by decide, by decide⟩ (ci := 12) rfl (mem_at 0 0 rfl rfl) rfl (Nat.le_of_ble_eq_true rfl) ⟨by decide, by decide⟩ dX11_meanFound_6) (is := [0]) rfl [1] (rs := [[(M 6, .inl (G.2.1 0, 6, .inl wd))]]) rfl (by decide) (by decide) ?_
  rintro _ _ ⟨rfl, rfl⟩
  refine V_if_ne hC dX11_meanFound_9 (tgt := 16) (by decide) (fun h1 => ?_) (fun h1 => ?_)
  · have hn0 : ¬ wnM fd = 0 := by rintro e; exact h1 (by rw [e]; rfl)
    refine V_aload_n hC dX11_meanFound_16 0 rfl ?_
    refine V_calli hC (V_runV hC (rest := []) [] (c_X11_sum l G M 0 du mny cl ws nb ny fd aw al y wd hfd) [0, 1] rfl (by decide) q1392 q1394 q31 q52 q1395 ⟨by decide, by decide, rfl⟩ ⟨by decide, by decide⟩ (ci := 12) rfl (mem_at 0 0 rfl rfl) rfl (Nat.le_of_ble_eq_true rfl) ⟨by decide, by decide⟩ dX11_meanFound_17) (is := [0, 1]) rfl [] (rs := []) rfl (by decide) (by decide) ?_
    rintro _ _ ⟨rfl, rfl⟩
    refine V_i2d hC dX11_meanFound_20 ?_
    refine V_aload_n hC dX11_meanFound_21 0 rfl ?_
    refine V_calli hC (V_runV hC (rest := [.double (FP.i2d (sm wd (wnM fd)))]) [] (c_X11_inWindow l G M 0 du mny cl ws nb ny fd aw al y hfd) [0] rfl (by decide) q1396 q1398 q32 q52 q1399 ⟨by decide, by decide, rfl⟩ ⟨by decide, by decide⟩ (ci := 12) rfl (mem_at 0 0 rfl rfl) rfl (Nat.le_of_ble_eq_true rfl) ⟨by decide, by decide⟩ dX11_meanFound_22) (is := [0]) rfl [1] (rs := [[(M 6, .inl (G.2.1 0, 6, .inl wd))]]) rfl (by decide) (by decide) ?_
    rintro _ _ ⟨rfl, rfl⟩
    refine V_i2d hC dX11_meanFound_25 ?_
    refine V_ddiv hC dX11_meanFound_26 (mean_ok (Nat.pos_of_ne_zero hn0) hw6) ?_
    exact V_dret hC hQ hr [0, 1] (u := [[(M 0, .inr (12, [.int 0, .ref (M 1), .ref (M 2), .ref aw, .ref al, .ref (M 3), .ref (M 4), .ref (M 5), .ref (M 6), .ref y, .int (nI nb), .int (nI ny), .int du, .int mny, .int cl, .int (nI fd), .int ws]))], [(M 6, .inl (G.2.1 0, 6, .inl wd))]]) (by decide) rfl (by decide) (by decide) dX11_meanFound_27 (⟨by unfold mnD; rw [if_neg hn0], rfl⟩)
  · have hn0 : wnM fd = 0 := nI_z h1 (by omega)
    refine V_dconst hC dX11_meanFound_12 ?_
    refine V_goto hC dX11_meanFound_13 (tgt := 27) (by decide) ?_
    exact V_dret hC hQ hr [0, 1] (u := [[(M 0, .inr (12, [.int 0, .ref (M 1), .ref (M 2), .ref aw, .ref al, .ref (M 3), .ref (M 4), .ref (M 5), .ref (M 6), .ref y, .int (nI nb), .int (nI ny), .int du, .int mny, .int cl, .int (nI fd), .int ws]))], [(M 6, .inl (G.2.1 0, 6, .inl wd))]]) (by decide) rfl (by decide) (by decide) dX11_meanFound_27 (⟨by unfold mnD; rw [if_pos hn0], rfl⟩)
