/-! ===== the model's kiln ===== -/
theorem nar01 {x : Int32} (h : x = 0 ∨ x = 1) : vp_nar .boolean x = x := by
  rcases h with rfl | rfl <;> rfl
theorem V_zast {p : Program} {l : Launch} {e : Env} {R : Room} {s : State} {m : MethodId} {args : Array Value} {below : List Frame} {meth : Method} {c : Code} {Q : State → Prop} {G : VG} {A : Nat → Prop} {nL : Nat} {cc : ByteArray} {own : String} {ps : List va_W} {k n pc : Nat} {L : List (Nat × Value)} {st : List Value} (C : VC p s m args meth c G A nL cc own) {r : va_W} {a N : Nat} {f : Nat → Int32} {i x : Int32} {z : Nat} {ps' : List va_W} (hdg : decode cc pc = .ok (.bastore, 1)) (j t : Nat) (he : ps[j]? = some r) (he2 : r[t]? = some (a, .inl (G.2.1 1, N, .inl f))) (h01 : x = 0 ∨ x = 1) (hi : vp_in i N) (hx : i.toNatClampNeg = z) (hps : ps.set j (r.set t (a, .inl (G.2.1 1, N, .inl (upd f z x)))) = ps') (kk : V p l e R s m args below meth c Q G A nL ps' k n (pc + 1) L (st)) : V p l e R s m args below meth c Q G A nL ps k n pc L (.int x :: .int i :: .ref a :: st) := fun H locs ls hP hD hS hl => by
  subst hx
  obtain ⟨q, hq, hq2⟩ := cell_in he he2
  refine va_zast C.1 C.2.1 C.K hP hD hS q 1 hq rfl hi hdg (fun H1 locs1 hP1 hD1 hS1 => ?_)
  rw [nar01 h01, hq2, hps] at hP1 hD1
  exact kk H1 locs1 ls hP1 hD1 hS1 hl
def refQ (n : Nat) (Q : Nat → Nat → Nat) (ci : Nat → Nat) : Nat → Option Nat := fun i => if i < n then some ((Q (ci i)) 0) else none
theorem refQ_at {n : Nat} {Q : Nat → Nat → Nat} {ci : Nat → Nat} {i : Nat} (h : i < n) : refQ n Q ci i = some ((Q (ci i)) 0) := if_pos h
def mvI {α : Type} (ci : Nat → α) : Nat → α := fun i => match i with
  | 0 => ci 0
  | k + 1 => if k < 4 then ci k else ci (k + 1)
def mvH (hs : Nat → Int32) : Nat → Int32 := upd (upd (upd (upd (upd hs 4 (hs 3)) 3 (hs 2)) 2 (hs 1)) 1 (hs 0)) 0 0
theorem mv_fn (Q : Nat → Nat → Nat) (ci : Nat → Nat) : va_up (va_up (va_up (va_up (refQ 5 Q ci) 4 (some ((Q (ci 3)) 0))) 3 (some ((Q (ci 2)) 0))) 2 (some ((Q (ci 1)) 0))) 1 (some ((Q (ci 0)) 0)) = refQ 5 Q (mvI ci) := by
  funext i
  match i with
  | 0 => rfl
  | 1 => rfl
  | 2 => rfl
  | 3 => rfl
  | 4 => rfl
  | k + 5 => simp [va_up, refQ, show ¬ k + 5 < 5 by omega]
theorem tk_fn (Q : Nat → Nat → Nat) (ci : Nat → Nat) (j : Nat) : va_up (refQ 5 Q ci) 0 (some ((Q j) 0)) = refQ 5 Q (va_up ci 0 j) := by
  funext i
  match i with
  | 0 => rfl
  | k + 1 => simp [va_up, refQ]
theorem wmC_0 {x : CV} {wc wn : Int32} (h : x.1 0 = 0) : mx 0 ((wc + 2 * wn) / 3 - 0) = wmCell x wc wn := by
  unfold wmCell
  rw [if_pos h, sub0]
theorem wmC_1 {x : CV} {wc wn : Int32} (h : ¬ x.1 0 = 0) (h2 : x.1 1 ≤ 0) : mx 0 ((wc + 2 * wn) / 3 - 0) = wmCell x wc wn := by
  unfold wmCell
  rw [if_neg h, if_pos h2, sub0]
theorem wmC_2 {x : CV} {wc wn : Int32} (h : ¬ x.1 0 = 0) (h2 : ¬ x.1 1 ≤ 0) : mx 0 ((wc + 2 * wn) / 3 - 1) = wmCell x wc wn := by
  unfold wmCell
  rw [if_neg h, if_neg h2, Int32.sub_eq_add_neg]
/-- the pool after so many cells burnt -/
def pbF (hs : Nat → Int32) (ci : Nat → Nat) (w : Nat → Int32) (v : Nat → CV) (mz : Nat → MV) : Nat → Nat → MV
  | 0 => mz
  | t + 1 => if hs t = 0 then pbF hs ci w v mz t else va_up (pbF hs ci w v mz t) (ci t) (mvS (pbF hs ci w v mz t (ci t)) (chBurn (w t) (v t)))
theorem pbF_ne {hs : Nat → Int32} {ci : Nat → Nat} {w : Nat → Int32} {v : Nat → CV} {mz : Nat → MV} {j : Nat} : ∀ {t : Nat}, (∀ s, s < t → ¬ hs s = 0 → ci s ≠ j) → pbF hs ci w v mz t j = mz j
  | 0, _ => rfl
  | t + 1, h => by
    show (if hs t = 0 then _ else _ : Nat → MV) j = _
    by_cases h0 : hs t = 0
    · rw [if_pos h0]
      exact pbF_ne (fun s hs1 => h s (by omega))
    · rw [if_neg h0]
      show (if j = ci t then _ else _) = _
      rw [if_neg (fun e => h t (by omega) h0 e.symm)]
      exact pbF_ne (fun s hs1 => h s (by omega))
theorem pbF_at {hs : Nat → Int32} {ci : Nat → Nat} {w : Nat → Int32} {v : Nat → CV} {mz : Nat → MV} {k : Nat} (hk : ¬ hs k = 0) : ∀ {t : Nat}, k < t → (∀ s, s < t → ¬ hs s = 0 → s ≠ k → ci s ≠ ci k) → pbF hs ci w v mz t (ci k) = mvS (mz (ci k)) (chBurn (w k) (v k))
  | 0, h, _ => absurd h (Nat.not_lt_zero _)
  | t + 1, h, hd => by
    show (if hs t = 0 then _ else _ : Nat → MV) (ci k) = _
    by_cases e : t = k
    · subst e
      rw [if_neg hk]
      show (if ci t = ci t then _ else _) = _
      rw [if_pos rfl, pbF_ne (fun s h1 h2 => hd s (by omega) h2 (by omega))]
    · by_cases h0 : hs t = 0
      · rw [if_pos h0]
        exact pbF_at hk (by omega) (fun s h1 => hd s (by omega))
      · rw [if_neg h0]
        show (if ci k = ci t then _ else _) = _
        rw [if_neg (fun e2 => hd t (by omega) h0 (fun e3 => e e3) e2.symm)]
        exact pbF_at hk (by omega) (fun s h1 => hd s (by omega))
theorem pbF_skip {hs : Nat → Int32} {ci : Nat → Nat} {w : Nat → Int32} {v : Nat → CV} {mz : Nat → MV} {t : Nat} (h : hs t = 0) : pbF hs ci w v mz (t + 1) = pbF hs ci w v mz t := if_pos h
theorem pbF_hit {hs : Nat → Int32} {ci : Nat → Nat} {w : Nat → Int32} {v : Nat → CV} {mz : Nat → MV} {t : Nat} (h : ¬ hs t = 0) : pbF hs ci w v mz (t + 1) = va_up (pbF hs ci w v mz t) (ci t) (mvS (pbF hs ci w v mz t (ci t)) (chBurn (w t) (v t))) := if_neg h
theorem pbF_ox {hs : Nat → Int32} {ci : Nat → Nat} {w : Nat → Int32} {v : Nat → CV} {mz : Nat → MV} {j : Nat} : ∀ {t : Nat}, (pbF hs ci w v mz t j).2 = (mz j).2
  | 0 => rfl
  | t + 1 => by
    show ((if hs t = 0 then _ else _ : Nat → MV) j).2 = _
    by_cases h0 : hs t = 0
    · rw [if_pos h0]
      exact pbF_ox
    · rw [if_neg h0]
      show (if j = ci t then _ else _ : MV).2 = _
      by_cases e : j = ci t
      · rw [if_pos e]
        show (pbF hs ci w v mz t (ci t)).2 = _
        rw [← e]
        exact pbF_ox
      · rw [if_neg e]
        exact pbF_ox
theorem kcF_skip {w : Nat → Int32} {v : Nat → CV} {ca : Int32} {t : Nat} (h : (v t).1 0 = 0) : kcF w v ca (t + 1) = kcF w v ca t := if_pos h
theorem kcF_hit {w : Nat → Int32} {v : Nat → CV} {ca : Int32} {t : Nat} (h : ¬ (v t).1 0 = 0) : kcF w v ca (t + 1) = kcF w v ca t + bnA (w t) ((v t).1 1) := if_neg h
/-- who lives: cells with a charge, the youngest first -/
def decI (hs : Nat → Int32) (ci : Nat → Nat) : Prop := ∀ i j, i < j → j < 5 → ¬ hs i = 0 → ¬ hs j = 0 → ci j < ci i
theorem decI_ne {hs : Nat → Int32} {ci : Nat → Nat} (h : decI hs ci) {i j : Nat} (hi : i < 5) (hj : j < 5) (h1 : ¬ hs i = 0) (h2 : ¬ hs j = 0) (hne : i ≠ j) : ci i ≠ ci j := by
  rcases Nat.lt_or_gt_of_ne hne with q | q
  · have := h i j q hj h1 h2; omega
  · have := h j i q hi h2 h1; omega
theorem i32_l6 {x : Int32} (h : x ≤ 5) : x < 6 := by
  rw [Int32.le_iff_toInt_le] at h
  rw [Int32.lt_iff_toInt_lt]
  have h5 : (5 : Int32).toInt = 5 := rfl
  have h6 : (6 : Int32).toInt = 6 := rfl
  omega
theorem i32_n6 {x : Int32} (h : ¬ x ≤ 5) : ¬ x < 6 := by
  rw [Int32.le_iff_toInt_le] at h
  rw [Int32.lt_iff_toInt_lt]
  have h5 : (5 : Int32).toInt = 5 := rfl
  have h6 : (6 : Int32).toInt = 6 := rfl
  omega
theorem i32_l8 {x : Int32} (h : x ≤ 7) : x < 8 := by
  rw [Int32.le_iff_toInt_le] at h
  rw [Int32.lt_iff_toInt_lt]
  have h5 : (7 : Int32).toInt = 7 := rfl
  have h6 : (8 : Int32).toInt = 8 := rfl
  omega
theorem i32_n8 {x : Int32} (h : ¬ x ≤ 7) : ¬ x < 8 ∧ 5 ≤ x := by
  rw [Int32.le_iff_toInt_le] at h
  rw [Int32.lt_iff_toInt_lt, Int32.le_iff_toInt_le]
  have h5 : (7 : Int32).toInt = 7 := rfl
  have h6 : (8 : Int32).toInt = 8 := rfl
  have h7 : (5 : Int32).toInt = 5 := rfl
  omega
theorem kr_0 {pr me w ri : Int32} (h : pr = 0) : kRing1 pr me w ri = ri := if_pos h
theorem kr_1 {pr me w ri : Int32} (h : me ≤ 5) : kRing1 pr me w ri = ri := by
  unfold kRing1
  split
  · rfl
  · rw [if_pos (i32_l6 h)]
theorem kr_2 {pr me w ri : Int32} (h : w ≤ 7) : kRing1 pr me w ri = ri := by
  unfold kRing1
  split
  · rfl
  · split
    · rfl
    · rw [if_pos (i32_l8 h)]
theorem kr_y {pr me w ri fe : Int32} (h : ¬ pr = 0) (h2 : ¬ me ≤ 5) (h3 : ¬ w ≤ 7) : kRing2 w (kRing1 pr me w ri) = ri + 1 ∧ kFall w (kRing1 pr me w ri) fe = fe := by
  have e : kRing1 pr me w ri = ri + 1 := by
    unfold kRing1
    rw [if_neg h, if_neg (i32_n6 h2), if_neg (i32_n8 h3).1]
  rw [e]
  exact ⟨if_pos (i32_n8 h3).2, if_pos (i32_n8 h3).2⟩
set_option maxHeartbeats 4000000 in
set_option maxRecDepth 100000 in
/-- ClinkerWorksModel$Kiln.isBlocked -/
theorem c_X10_isBlocked (l : Launch) (G : VG) (y ce ha wa : Nat) (fl co no ri fe bl c2 : Int32) : Mi l G yX10_isBlocked cX10_isBlocked 1 .boolean 0 0 0 0 [.ref y] [[(y, .inr (11, [.ref ce, .ref ha, .ref wa, .int fl, .int co, .int no, .int ri, .int fe, .int bl, .int c2]))]] (fun r u => r = (if ri < 6 then 0 else 1) ∧ u = [[(y, .inr (11, [.ref ce, .ref ha, .ref wa, .int fl, .int co, .int no, .int ri, .int fe, .int bl, .int c2]))]]) := by
  refine Mi_of (by decide) (Nat.le_of_ble_eq_true rfl) (fun pP eE sS mM aA bB tT cC AA QQ hC hr hnm hQ => ?_)
  refine V_aload_n hC dX10_isBlocked_0 0 rfl ?_
  refine V_get hC dX10_isBlocked_1 inAX10 (mem_at 0 0 rfl rfl) rfl 6 (by decide) q1049 rfl (v := .int ri) rfl ?_
  refine V_iconst hC dX10_isBlocked_4 (v := 5) (by decide) ?_
  refine V_icmp_le hC dX10_isBlocked_5 (tgt := 12) (by decide) (fun h1 => ?_) (fun h1 => ?_)
  · refine V_iconst hC dX10_isBlocked_12 (v := 0) (by decide) ?_
    exact V_zret hC hQ hr (by decide) [0] (u := [[(y, .inr (11, [.ref ce, .ref ha, .ref wa, .int fl, .int co, .int no, .int ri, .int fe, .int bl, .int c2]))]]) (by decide) rfl (by decide) (by decide) dX10_isBlocked_13 (⟨by rw [if_pos (i32_l6 h1)], rfl⟩)
  · refine V_iconst hC dX10_isBlocked_8 (v := 1) (by decide) ?_
    refine V_goto hC dX10_isBlocked_9 (tgt := 13) (by decide) ?_
    exact V_zret hC hQ hr (by decide) [0] (u := [[(y, .inr (11, [.ref ce, .ref ha, .ref wa, .int fl, .int co, .int no, .int ri, .int fe, .int bl, .int c2]))]]) (by decide) rfl (by decide) (by decide) dX10_isBlocked_13 (⟨by rw [if_neg (i32_n6 h1)], rfl⟩)
set_option maxHeartbeats 4000000 in
set_option maxRecDepth 100000 in
/-- ClinkerWorksModel$Kiln.burns -/
theorem c_X10_burns (l : Launch) (G : VG) (y ce ha wa : Nat) (fl co no ri fe bl c2 : Int32) : Mi l G yX10_burns cX10_burns 1 .int 0 0 0 0 [.ref y] [[(y, .inr (11, [.ref ce, .ref ha, .ref wa, .int fl, .int co, .int no, .int ri, .int fe, .int bl, .int c2]))]] (fun r u => r = kBurns co fl ∧ u = [[(y, .inr (11, [.ref ce, .ref ha, .ref wa, .int fl, .int (kCoal co fl), .int no, .int ri, .int fe, .int bl, .int c2]))]]) := by
  refine Mi_of (by decide) (Nat.le_of_ble_eq_true rfl) (fun pP eE sS mM aA bB tT cC AA QQ hC hr hnm hQ => ?_)
  refine V_aload_n hC dX10_burns_0 0 rfl ?_
  refine V_get hC dX10_burns_1 inAX10 (mem_at 0 0 rfl rfl) rfl 4 (by decide) q1045 rfl (v := .int co) rfl ?_
  refine V_aload_n hC dX10_burns_4 0 rfl ?_
  refine V_get hC dX10_burns_5 inAX10 (mem_at 0 0 rfl rfl) rfl 3 (by decide) q1043 rfl (v := .int fl) rfl ?_
  refine V_icmp_ge hC dX10_burns_8 (tgt := 13) (by decide) (fun h1 => ?_) (fun h1 => ?_)
  · have hc : fl ≤ co := h1
    refine V_aload_n hC dX10_burns_13 0 rfl ?_
    refine V_dup hC dX10_burns_14 rfl ?_
    refine V_get hC dX10_burns_15 inAX10 (mem_at 0 0 rfl rfl) rfl 4 (by decide) q1045 rfl (v := .int co) rfl ?_
    refine V_aload_n hC dX10_burns_18 0 rfl ?_
    refine V_get hC dX10_burns_19 inAX10 (mem_at 0 0 rfl rfl) rfl 3 (by decide) q1043 rfl (v := .int fl) rfl ?_
    refine V_isub hC dX10_burns_22 ?_
    refine V_put hC dX10_burns_23 inAX10 tyX10 tyX10_ok nmX10 0 0 rfl rfl rfl 4 (by decide) q1045 rfl rfl (rfl) (rfl) (Nat.le_of_ble_eq_true rfl) (ps' := [[(y, .inr (11, [.ref ce, .ref ha, .ref wa, .int fl, .int (co - fl), .int no, .int ri, .int fe, .int bl, .int c2]))]]) rfl ?_
    refine V_aload_n hC dX10_burns_26 0 rfl ?_
    refine V_get hC dX10_burns_27 inAX10 (mem_at 0 0 rfl rfl) rfl 3 (by decide) q1043 rfl (v := .int fl) rfl ?_
    exact V_iret hC hQ hr [0] (u := [[(y, .inr (11, [.ref ce, .ref ha, .ref wa, .int fl, .int (co - fl), .int no, .int ri, .int fe, .int bl, .int c2]))]]) (by decide) rfl (by decide) (by decide) dX10_burns_30 (⟨by simp [kBurns, hc], by simp [kCoal, hc]⟩)
  · have hc : ¬ fl ≤ co := h1
    refine V_iconst hC dX10_burns_11 (v := 0) (by decide) ?_
    exact V_iret hC hQ hr [0] (u := [[(y, .inr (11, [.ref ce, .ref ha, .ref wa, .int fl, .int co, .int no, .int ri, .int fe, .int bl, .int c2]))]]) (by decide) rfl (by decide) (by decide) dX10_burns_12 (⟨by simp [kBurns, hc], by simp [kCoal, hc]⟩)
set_option maxHeartbeats 4000000 in
set_option maxRecDepth 100000 in
/-- ClinkerWorksModel$Kiln.move -/
theorem c_X10_move (l : Launch) (G : VG) (y ce ha wa : Nat) (fl co no ri fe bl c2 : Int32) (Q : Nat → Nat → Nat) (ci : Nat → Nat) (hs : Nat → Int32) (NC : Nat) (mz : Nat → MV) (hci : ∀ j, j < 5 → ci j < NC) (hb : ∀ j, j < 5 → hs j = 0 ∨ hs j = 1) : Mr l G yX10_move cX10_move 3 (.object "ClinkerWorksModel$Charge") 0 0 0 0 [.ref y] [[(y, .inr (11, [.ref ce, .ref ha, .ref wa, .int fl, .int co, .int no, .int ri, .int fe, .int bl, .int c2]))], [(ce, .inl (G.2.1 7, 5, .inr (.inr (.inr (.inr (refQ 5 Q ci))))))], [(ha, .inl (G.2.1 1, 5, .inl hs))], famW NC (fun ι => mcP G (Q ι) (mz ι))] (fun r u => r = (Q (ci 4)) 0 ∧ u = [[(y, .inr (11, [.ref ce, .ref ha, .ref wa, .int fl, .int co, .int no, .int ri, .int fe, .int bl, .int c2]))], [(ce, .inl (G.2.1 7, 5, .inr (.inr (.inr (.inr (refQ 5 Q (mvI ci)))))))], [(ha, .inl (G.2.1 1, 5, .inl (mvH hs)))], famW NC (fun ι => mcP G (Q ι) (mz ι))]) := by
  refine Mr_of (by decide) (Nat.le_of_ble_eq_true rfl) (fun pP eE sS mM aA bB tT cC AA QQ hC hr hnm hQ => ?_)
  refine V_aload_n hC dX10_move_0 0 rfl ?_
  refine V_get hC dX10_move_1 inAX10 (mem_at 0 0 rfl rfl) rfl 0 (by decide) q1037 rfl (v := .ref ce) rfl ?_
  refine V_iconst hC dX10_move_4 (v := 4) (by decide) ?_
  refine V_aald hC dX10_move_5 7 rfl (mem_at 1 0 rfl rfl) (vin (by decide)) (x := 4) (by decide) (b := (Q (ci 4)) 0) (rfl) ?_
  refine V_astore_n hC dX10_move_6 (L' := [(1, .ref ((Q (ci 4)) 0)), (0, .ref y)]) (by decide) rfl ?_
  refine V_iconst hC dX10_move_7 (v := 4) (by decide) ?_
  refine V_istore_n hC dX10_move_8 (L' := [(2, .int 4), (1, .ref ((Q (ci 4)) 0)), (0, .ref y)]) (by decide) rfl ?_
  refine V_iload_n hC dX10_move_9 0 rfl ?_
  refine V_if_leF hC dX10_move_10 (tgt := 47) (by decide) (by decide) ?_
  refine V_aload_n hC dX10_move_13 2 rfl ?_
  refine V_get hC dX10_move_14 inAX10 (mem_at 0 0 rfl rfl) rfl 0 (by decide) q1037 rfl (v := .ref ce) rfl ?_
  refine V_iload_n hC dX10_move_17 0 rfl ?_
  refine V_aload_n hC dX10_move_18 2 rfl ?_
  refine V_get hC dX10_move_19 inAX10 (mem_at 0 0 rfl rfl) rfl 0 (by decide) q1037 rfl (v := .ref ce) rfl ?_
  refine V_iload_n hC dX10_move_22 0 rfl ?_
  refine V_iconst hC dX10_move_23 (v := 1) (by decide) ?_
  refine V_isub hC dX10_move_24 ?_
  refine V_eqi (y := 3) (by decide) ?_
  refine V_aald hC dX10_move_25 7 rfl (mem_at 1 0 rfl rfl) (vin (by decide)) (x := 3) (by decide) (b := (Q (ci 3)) 0) (rfl) ?_
  refine V_aast hC dX10_move_26 1 7 0 10 rfl rfl rfl rfl (mem_fam 3 0 rfl (ci 3) (hci _ (by decide)) rfl) (vin (by decide)) (z := 4) (by decide) (ps' := [[(y, .inr (11, [.ref ce, .ref ha, .ref wa, .int fl, .int co, .int no, .int ri, .int fe, .int bl, .int c2]))], [(ce, .inl (G.2.1 7, 5, .inr (.inr (.inr (.inr (va_up (refQ 5 Q ci) 4 (some ((Q (ci 3)) 0))))))))], [(ha, .inl (G.2.1 1, 5, .inl hs))], famW NC (fun ι => mcP G (Q ι) (mz ι))]) rfl ?_
  refine V_aload_n hC dX10_move_27 2 rfl ?_
  refine V_get hC dX10_move_28 inAX10 (mem_at 0 0 rfl rfl) rfl 1 (by decide) q1039 rfl (v := .ref ha) rfl ?_
  refine V_iload_n hC dX10_move_31 0 rfl ?_
  refine V_aload_n hC dX10_move_32 2 rfl ?_
  refine V_get hC dX10_move_33 inAX10 (mem_at 0 0 rfl rfl) rfl 1 (by decide) q1039 rfl (v := .ref ha) rfl ?_
  refine V_iload_n hC dX10_move_36 0 rfl ?_
  refine V_iconst hC dX10_move_37 (v := 1) (by decide) ?_
  refine V_isub hC dX10_move_38 ?_
  refine V_eqi (y := 3) (by decide) ?_
  refine V_zald hC dX10_move_39 (mem_at 2 0 rfl rfl) (vin (by decide)) (x := 3) (by decide) ?_
  refine V_zast hC dX10_move_40 2 0 rfl rfl (hb _ (by decide)) (vin (by decide)) (z := 4) (by decide) (ps' := [[(y, .inr (11, [.ref ce, .ref ha, .ref wa, .int fl, .int co, .int no, .int ri, .int fe, .int bl, .int c2]))], [(ce, .inl (G.2.1 7, 5, .inr (.inr (.inr (.inr (va_up (refQ 5 Q ci) 4 (some ((Q (ci 3)) 0))))))))], [(ha, .inl (G.2.1 1, 5, .inl (upd hs 4 (hs 3))))], famW NC (fun ι => mcP G (Q ι) (mz ι))]) rfl ?_
  refine V_iinc hC dX10_move_41 (v := 3) (L' := [(2, .int 3), (1, .ref ((Q (ci 4)) 0)), (0, .ref y)]) (j := 0) rfl (by decide) (by decide) rfl ?_
  refine V_goto hC dX10_move_44 (tgt := 9) (by decide) ?_
  refine V_iload_n hC dX10_move_9 0 rfl ?_
  refine V_if_leF hC dX10_move_10 (tgt := 47) (by decide) (by decide) ?_
  refine V_aload_n hC dX10_move_13 2 rfl ?_
  refine V_get hC dX10_move_14 inAX10 (mem_at 0 0 rfl rfl) rfl 0 (by decide) q1037 rfl (v := .ref ce) rfl ?_
  refine V_iload_n hC dX10_move_17 0 rfl ?_
  refine V_aload_n hC dX10_move_18 2 rfl ?_
  refine V_get hC dX10_move_19 inAX10 (mem_at 0 0 rfl rfl) rfl 0 (by decide) q1037 rfl (v := .ref ce) rfl ?_
  refine V_iload_n hC dX10_move_22 0 rfl ?_
  refine V_iconst hC dX10_move_23 (v := 1) (by decide) ?_
  refine V_isub hC dX10_move_24 ?_
  refine V_eqi (y := 2) (by decide) ?_
  refine V_aald hC dX10_move_25 7 rfl (mem_at 1 0 rfl rfl) (vin (by decide)) (x := 2) (by decide) (b := (Q (ci 2)) 0) (rfl) ?_
  refine V_aast hC dX10_move_26 1 7 0 10 rfl rfl rfl rfl (mem_fam 3 0 rfl (ci 2) (hci _ (by decide)) rfl) (vin (by decide)) (z := 3) (by decide) (ps' := [[(y, .inr (11, [.ref ce, .ref ha, .ref wa, .int fl, .int co, .int no, .int ri, .int fe, .int bl, .int c2]))], [(ce, .inl (G.2.1 7, 5, .inr (.inr (.inr (.inr (va_up (va_up (refQ 5 Q ci) 4 (some ((Q (ci 3)) 0))) 3 (some ((Q (ci 2)) 0))))))))], [(ha, .inl (G.2.1 1, 5, .inl (upd hs 4 (hs 3))))], famW NC (fun ι => mcP G (Q ι) (mz ι))]) rfl ?_
  refine V_aload_n hC dX10_move_27 2 rfl ?_
  refine V_get hC dX10_move_28 inAX10 (mem_at 0 0 rfl rfl) rfl 1 (by decide) q1039 rfl (v := .ref ha) rfl ?_
  refine V_iload_n hC dX10_move_31 0 rfl ?_
  refine V_aload_n hC dX10_move_32 2 rfl ?_
  refine V_get hC dX10_move_33 inAX10 (mem_at 0 0 rfl rfl) rfl 1 (by decide) q1039 rfl (v := .ref ha) rfl ?_
  refine V_iload_n hC dX10_move_36 0 rfl ?_
  refine V_iconst hC dX10_move_37 (v := 1) (by decide) ?_
  refine V_isub hC dX10_move_38 ?_
  refine V_eqi (y := 2) (by decide) ?_
  refine V_zald hC dX10_move_39 (mem_at 2 0 rfl rfl) (vin (by decide)) (x := 2) (by decide) ?_
  refine V_zast hC dX10_move_40 2 0 rfl rfl (hb _ (by decide)) (vin (by decide)) (z := 3) (by decide) (ps' := [[(y, .inr (11, [.ref ce, .ref ha, .ref wa, .int fl, .int co, .int no, .int ri, .int fe, .int bl, .int c2]))], [(ce, .inl (G.2.1 7, 5, .inr (.inr (.inr (.inr (va_up (va_up (refQ 5 Q ci) 4 (some ((Q (ci 3)) 0))) 3 (some ((Q (ci 2)) 0))))))))], [(ha, .inl (G.2.1 1, 5, .inl (upd (upd hs 4 (hs 3)) 3 (hs 2))))], famW NC (fun ι => mcP G (Q ι) (mz ι))]) rfl ?_
  refine V_iinc hC dX10_move_41 (v := 2) (L' := [(2, .int 2), (1, .ref ((Q (ci 4)) 0)), (0, .ref y)]) (j := 0) rfl (by decide) (by decide) rfl ?_
  refine V_goto hC dX10_move_44 (tgt := 9) (by decide) ?_
  refine V_iload_n hC dX10_move_9 0 rfl ?_
  refine V_if_leF hC dX10_move_10 (tgt := 47) (by decide) (by decide) ?_
  refine V_aload_n hC dX10_move_13 2 rfl ?_
  refine V_get hC dX10_move_14 inAX10 (mem_at 0 0 rfl rfl) rfl 0 (by decide) q1037 rfl (v := .ref ce) rfl ?_
  refine V_iload_n hC dX10_move_17 0 rfl ?_
  refine V_aload_n hC dX10_move_18 2 rfl ?_
  refine V_get hC dX10_move_19 inAX10 (mem_at 0 0 rfl rfl) rfl 0 (by decide) q1037 rfl (v := .ref ce) rfl ?_
  refine V_iload_n hC dX10_move_22 0 rfl ?_
  refine V_iconst hC dX10_move_23 (v := 1) (by decide) ?_
  refine V_isub hC dX10_move_24 ?_
  refine V_eqi (y := 1) (by decide) ?_
  refine V_aald hC dX10_move_25 7 rfl (mem_at 1 0 rfl rfl) (vin (by decide)) (x := 1) (by decide) (b := (Q (ci 1)) 0) (rfl) ?_
  refine V_aast hC dX10_move_26 1 7 0 10 rfl rfl rfl rfl (mem_fam 3 0 rfl (ci 1) (hci _ (by decide)) rfl) (vin (by decide)) (z := 2) (by decide) (ps' := [[(y, .inr (11, [.ref ce, .ref ha, .ref wa, .int fl, .int co, .int no, .int ri, .int fe, .int bl, .int c2]))], [(ce, .inl (G.2.1 7, 5, .inr (.inr (.inr (.inr (va_up (va_up (va_up (refQ 5 Q ci) 4 (some ((Q (ci 3)) 0))) 3 (some ((Q (ci 2)) 0))) 2 (some ((Q (ci 1)) 0))))))))], [(ha, .inl (G.2.1 1, 5, .inl (upd (upd hs 4 (hs 3)) 3 (hs 2))))], famW NC (fun ι => mcP G (Q ι) (mz ι))]) rfl ?_
  refine V_aload_n hC dX10_move_27 2 rfl ?_
  refine V_get hC dX10_move_28 inAX10 (mem_at 0 0 rfl rfl) rfl 1 (by decide) q1039 rfl (v := .ref ha) rfl ?_
  refine V_iload_n hC dX10_move_31 0 rfl ?_
  refine V_aload_n hC dX10_move_32 2 rfl ?_
  refine V_get hC dX10_move_33 inAX10 (mem_at 0 0 rfl rfl) rfl 1 (by decide) q1039 rfl (v := .ref ha) rfl ?_
  refine V_iload_n hC dX10_move_36 0 rfl ?_
  refine V_iconst hC dX10_move_37 (v := 1) (by decide) ?_
  refine V_isub hC dX10_move_38 ?_
  refine V_eqi (y := 1) (by decide) ?_
  refine V_zald hC dX10_move_39 (mem_at 2 0 rfl rfl) (vin (by decide)) (x := 1) (by decide) ?_
  refine V_zast hC dX10_move_40 2 0 rfl rfl (hb _ (by decide)) (vin (by decide)) (z := 2) (by decide) (ps' := [[(y, .inr (11, [.ref ce, .ref ha, .ref wa, .int fl, .int co, .int no, .int ri, .int fe, .int bl, .int c2]))], [(ce, .inl (G.2.1 7, 5, .inr (.inr (.inr (.inr (va_up (va_up (va_up (refQ 5 Q ci) 4 (some ((Q (ci 3)) 0))) 3 (some ((Q (ci 2)) 0))) 2 (some ((Q (ci 1)) 0))))))))], [(ha, .inl (G.2.1 1, 5, .inl (upd (upd (upd hs 4 (hs 3)) 3 (hs 2)) 2 (hs 1))))], famW NC (fun ι => mcP G (Q ι) (mz ι))]) rfl ?_
  refine V_iinc hC dX10_move_41 (v := 1) (L' := [(2, .int 1), (1, .ref ((Q (ci 4)) 0)), (0, .ref y)]) (j := 0) rfl (by decide) (by decide) rfl ?_
  refine V_goto hC dX10_move_44 (tgt := 9) (by decide) ?_
  refine V_iload_n hC dX10_move_9 0 rfl ?_
  refine V_if_leF hC dX10_move_10 (tgt := 47) (by decide) (by decide) ?_
  refine V_aload_n hC dX10_move_13 2 rfl ?_
  refine V_get hC dX10_move_14 inAX10 (mem_at 0 0 rfl rfl) rfl 0 (by decide) q1037 rfl (v := .ref ce) rfl ?_
  refine V_iload_n hC dX10_move_17 0 rfl ?_
  refine V_aload_n hC dX10_move_18 2 rfl ?_
  refine V_get hC dX10_move_19 inAX10 (mem_at 0 0 rfl rfl) rfl 0 (by decide) q1037 rfl (v := .ref ce) rfl ?_
  refine V_iload_n hC dX10_move_22 0 rfl ?_
  refine V_iconst hC dX10_move_23 (v := 1) (by decide) ?_
  refine V_isub hC dX10_move_24 ?_
  refine V_eqi (y := 0) (by decide) ?_
  refine V_aald hC dX10_move_25 7 rfl (mem_at 1 0 rfl rfl) (vin (by decide)) (x := 0) (by decide) (b := (Q (ci 0)) 0) (rfl) ?_
  refine V_aast hC dX10_move_26 1 7 0 10 rfl rfl rfl rfl (mem_fam 3 0 rfl (ci 0) (hci _ (by decide)) rfl) (vin (by decide)) (z := 1) (by decide) (ps' := [[(y, .inr (11, [.ref ce, .ref ha, .ref wa, .int fl, .int co, .int no, .int ri, .int fe, .int bl, .int c2]))], [(ce, .inl (G.2.1 7, 5, .inr (.inr (.inr (.inr (va_up (va_up (va_up (va_up (refQ 5 Q ci) 4 (some ((Q (ci 3)) 0))) 3 (some ((Q (ci 2)) 0))) 2 (some ((Q (ci 1)) 0))) 1 (some ((Q (ci 0)) 0))))))))], [(ha, .inl (G.2.1 1, 5, .inl (upd (upd (upd hs 4 (hs 3)) 3 (hs 2)) 2 (hs 1))))], famW NC (fun ι => mcP G (Q ι) (mz ι))]) rfl ?_
  refine V_aload_n hC dX10_move_27 2 rfl ?_
  refine V_get hC dX10_move_28 inAX10 (mem_at 0 0 rfl rfl) rfl 1 (by decide) q1039 rfl (v := .ref ha) rfl ?_
  refine V_iload_n hC dX10_move_31 0 rfl ?_
  refine V_aload_n hC dX10_move_32 2 rfl ?_
  refine V_get hC dX10_move_33 inAX10 (mem_at 0 0 rfl rfl) rfl 1 (by decide) q1039 rfl (v := .ref ha) rfl ?_
  refine V_iload_n hC dX10_move_36 0 rfl ?_
  refine V_iconst hC dX10_move_37 (v := 1) (by decide) ?_
  refine V_isub hC dX10_move_38 ?_
  refine V_eqi (y := 0) (by decide) ?_
  refine V_zald hC dX10_move_39 (mem_at 2 0 rfl rfl) (vin (by decide)) (x := 0) (by decide) ?_
  refine V_zast hC dX10_move_40 2 0 rfl rfl (hb _ (by decide)) (vin (by decide)) (z := 1) (by decide) (ps' := [[(y, .inr (11, [.ref ce, .ref ha, .ref wa, .int fl, .int co, .int no, .int ri, .int fe, .int bl, .int c2]))], [(ce, .inl (G.2.1 7, 5, .inr (.inr (.inr (.inr (va_up (va_up (va_up (va_up (refQ 5 Q ci) 4 (some ((Q (ci 3)) 0))) 3 (some ((Q (ci 2)) 0))) 2 (some ((Q (ci 1)) 0))) 1 (some ((Q (ci 0)) 0))))))))], [(ha, .inl (G.2.1 1, 5, .inl (upd (upd (upd (upd hs 4 (hs 3)) 3 (hs 2)) 2 (hs 1)) 1 (hs 0))))], famW NC (fun ι => mcP G (Q ι) (mz ι))]) rfl ?_
  refine V_iinc hC dX10_move_41 (v := 0) (L' := [(2, .int 0), (1, .ref ((Q (ci 4)) 0)), (0, .ref y)]) (j := 0) rfl (by decide) (by decide) rfl ?_
  refine V_goto hC dX10_move_44 (tgt := 9) (by decide) ?_
  refine V_iload_n hC dX10_move_9 0 rfl ?_
  refine V_if_leT hC dX10_move_10 (tgt := 47) (by decide) (by decide) ?_
  refine V_aload_n hC dX10_move_47 2 rfl ?_
  refine V_get hC dX10_move_48 inAX10 (mem_at 0 0 rfl rfl) rfl 1 (by decide) q1039 rfl (v := .ref ha) rfl ?_
  refine V_iconst hC dX10_move_51 (v := 0) (by decide) ?_
  refine V_iconst hC dX10_move_52 (v := 0) (by decide) ?_
  refine V_zast hC dX10_move_53 2 0 rfl rfl (by decide) (vin (by decide)) (z := 0) (by decide) (ps' := [[(y, .inr (11, [.ref ce, .ref ha, .ref wa, .int fl, .int co, .int no, .int ri, .int fe, .int bl, .int c2]))], [(ce, .inl (G.2.1 7, 5, .inr (.inr (.inr (.inr (va_up (va_up (va_up (va_up (refQ 5 Q ci) 4 (some ((Q (ci 3)) 0))) 3 (some ((Q (ci 2)) 0))) 2 (some ((Q (ci 1)) 0))) 1 (some ((Q (ci 0)) 0))))))))], [(ha, .inl (G.2.1 1, 5, .inl (upd (upd (upd (upd (upd hs 4 (hs 3)) 3 (hs 2)) 2 (hs 1)) 1 (hs 0)) 0 0)))], famW NC (fun ι => mcP G (Q ι) (mz ι))]) rfl ?_
  refine V_aload_n hC dX10_move_54 1 rfl ?_
  exact V_aret hC hQ hr (Or.inl ⟨_, rfl⟩) [0, 1, 2, 3] (u := [[(y, .inr (11, [.ref ce, .ref ha, .ref wa, .int fl, .int co, .int no, .int ri, .int fe, .int bl, .int c2]))], [(ce, .inl (G.2.1 7, 5, .inr (.inr (.inr (.inr (va_up (va_up (va_up (va_up (refQ 5 Q ci) 4 (some ((Q (ci 3)) 0))) 3 (some ((Q (ci 2)) 0))) 2 (some ((Q (ci 1)) 0))) 1 (some ((Q (ci 0)) 0))))))))], [(ha, .inl (G.2.1 1, 5, .inl (upd (upd (upd (upd (upd hs 4 (hs 3)) 3 (hs 2)) 2 (hs 1)) 1 (hs 0)) 0 0)))], famW NC (fun ι => mcP G (Q ι) (mz ι))]) (by decide) rfl (by decide) (by decide) dX10_move_55 (⟨rfl, by rw [← mv_fn]; rfl⟩)
set_option maxHeartbeats 4000000 in
set_option maxRecDepth 100000 in
/-- ClinkerWorksModel$Kiln.take -/
theorem c_X10_take (l : Launch) (G : VG) (y ce ha wa : Nat) (fl co no ri fe bl c2 : Int32) (Q : Nat → Nat → Nat) (ci : Nat → Nat) (hs : Nat → Int32) (NC : Nat) (mz : Nat → MV) (j : Nat) (hj : j < NC) : Mv l G yX10_take cX10_take 2 0 0 0 0 [.ref y, .ref ((Q j) 0)] [[(y, .inr (11, [.ref ce, .ref ha, .ref wa, .int fl, .int co, .int no, .int ri, .int fe, .int bl, .int c2]))], [(ce, .inl (G.2.1 7, 5, .inr (.inr (.inr (.inr (refQ 5 Q ci))))))], [(ha, .inl (G.2.1 1, 5, .inl hs))], famW NC (fun ι => mcP G (Q ι) (mz ι))] (fun u => u = [[(y, .inr (11, [.ref ce, .ref ha, .ref wa, .int fl, .int co, .int no, .int ri, .int fe, .int bl, .int c2]))], [(ce, .inl (G.2.1 7, 5, .inr (.inr (.inr (.inr (refQ 5 Q (va_up ci 0 j)))))))], [(ha, .inl (G.2.1 1, 5, .inl (upd hs 0 1)))], famW NC (fun ι => mcP G (Q ι) (mz ι))]) := by
  refine Mv_of (by decide) (Nat.le_of_ble_eq_true rfl) (fun pP eE sS mM aA bB tT cC AA QQ hC hr hnm hQ => ?_)
  refine V_aload_n hC dX10_take_0 0 rfl ?_
  refine V_get hC dX10_take_1 inAX10 (mem_at 0 0 rfl rfl) rfl 0 (by decide) q1037 rfl (v := .ref ce) rfl ?_
  refine V_iconst hC dX10_take_4 (v := 0) (by decide) ?_
  refine V_aload_n hC dX10_take_5 1 rfl ?_
  refine V_aast hC dX10_take_6 1 7 0 10 rfl rfl rfl rfl (mem_fam 3 0 rfl j (hj) rfl) (vin (by decide)) (z := 0) (by decide) (ps' := [[(y, .inr (11, [.ref ce, .ref ha, .ref wa, .int fl, .int co, .int no, .int ri, .int fe, .int bl, .int c2]))], [(ce, .inl (G.2.1 7, 5, .inr (.inr (.inr (.inr (va_up (refQ 5 Q ci) 0 (some ((Q j) 0))))))))], [(ha, .inl (G.2.1 1, 5, .inl hs))], famW NC (fun ι => mcP G (Q ι) (mz ι))]) rfl ?_
  refine V_aload_n hC dX10_take_7 0 rfl ?_
  refine V_get hC dX10_take_8 inAX10 (mem_at 0 0 rfl rfl) rfl 1 (by decide) q1039 rfl (v := .ref ha) rfl ?_
  refine V_iconst hC dX10_take_11 (v := 0) (by decide) ?_
  refine V_iconst hC dX10_take_12 (v := 1) (by decide) ?_
  refine V_zast hC dX10_take_13 2 0 rfl rfl (by decide) (vin (by decide)) (z := 0) (by decide) (ps' := [[(y, .inr (11, [.ref ce, .ref ha, .ref wa, .int fl, .int co, .int no, .int ri, .int fe, .int bl, .int c2]))], [(ce, .inl (G.2.1 7, 5, .inr (.inr (.inr (.inr (va_up (refQ 5 Q ci) 0 (some ((Q j) 0))))))))], [(ha, .inl (G.2.1 1, 5, .inl (upd hs 0 1)))], famW NC (fun ι => mcP G (Q ι) (mz ι))]) rfl ?_
  exact V_vret hC hQ hr [0, 1, 2, 3] (u := [[(y, .inr (11, [.ref ce, .ref ha, .ref wa, .int fl, .int co, .int no, .int ri, .int fe, .int bl, .int c2]))], [(ce, .inl (G.2.1 7, 5, .inr (.inr (.inr (.inr (va_up (refQ 5 Q ci) 0 (some ((Q j) 0))))))))], [(ha, .inl (G.2.1 1, 5, .inl (upd hs 0 1)))], famW NC (fun ι => mcP G (Q ι) (mz ι))]) (by decide) rfl (by decide) (by decide) dX10_take_14 (by rw [← tk_fn])
set_option maxHeartbeats 4000000 in
set_option maxRecDepth 100000 in
/-- ClinkerWorksModel$Kiln.burn -/
theorem c_X10_burn (l : Launch) (G : VG) (y ce ha wa : Nat) (fl co no ri fe bl c2 : Int32) (Q : Nat → Nat → Nat) (ci : Nat → Nat) (hs : Nat → Int32) (NC : Nat) (mz : Nat → MV) (w : Nat → Int32) (v : Nat → CV) (b : Int32) (wu : Nat → Nat) (hci : ∀ j, j < 5 → ci j < NC) (hb : ∀ j, j < 5 → hs j = 0 ∨ hs j = 1) (hvb : ∀ k, k < 5 → (v k).1 0 = hs k) (hvn : ∀ k, k < 5 → ¬ hs k = 0 → chN (v k)) (hvr : ∀ k, k < 5 → ¬ hs k = 0 → cmR (v k) (mz (ci k))) (hdec : decI hs ci) (hwu : ∀ k, k < 5 → wm0 v w b k = nI (wu k) ∧ wu k ≤ 100) : Mv l G yX10_burn cX10_burn 3 2 43 0 0 [.ref y, .int b] [[(y, .inr (11, [.ref ce, .ref ha, .ref wa, .int fl, .int co, .int no, .int ri, .int fe, .int bl, .int c2]))], [(ce, .inl (G.2.1 7, 5, .inr (.inr (.inr (.inr (refQ 5 Q ci))))))], [(ha, .inl (G.2.1 1, 5, .inl hs))], [(wa, .inl (G.2.1 0, 5, .inl w))], famW NC (fun ι => mcP G (Q ι) (mz ι))] (fun u => u = [[(y, .inr (11, [.ref ce, .ref ha, .ref wa, .int fl, .int co, .int no, .int (kRing2 ((wm0 v w b) 3) (kRing1 ((v 3).1 0) (mxMelt (v 3).2.1) ((wm0 v w b) 3) ri)), .int (kFall ((wm0 v w b) 3) (kRing1 ((v 3).1 0) (mxMelt (v 3).2.1) ((wm0 v w b) 3) ri) fe), .int bl, .int (kcF (wm0 v w b) v (c2 + 2 * b) 5)]))], [(ce, .inl (G.2.1 7, 5, .inr (.inr (.inr (.inr (refQ 5 Q ci))))))], [(ha, .inl (G.2.1 1, 5, .inl hs))], [(wa, .inl (G.2.1 0, 5, .inl (wm0 v w b)))], famW NC (fun ι => mcP G (Q ι) ((pbF hs ci (wm0 v w b) v mz 5) ι))]) := by
  refine Mv_of (by decide) (Nat.le_of_ble_eq_true rfl) (fun pP eE sS mM aA bB tT cC AA QQ hC hr hnm hQ => ?_)
  refine V_aload_n hC dX10_burn_0 0 rfl ?_
  refine V_dup hC dX10_burn_1 rfl ?_
  refine V_get hC dX10_burn_2 inAX10 (mem_at 0 0 rfl rfl) rfl 9 (by decide) q1055 rfl (v := .int c2) rfl ?_
  refine V_iconst hC dX10_burn_5 (v := 2) (by decide) ?_
  refine V_iload_n hC dX10_burn_6 1 rfl ?_
  refine V_imul hC dX10_burn_7 ?_
  refine V_iadd hC dX10_burn_8 ?_
  refine V_put hC dX10_burn_9 inAX10 tyX10 tyX10_ok nmX10 0 0 rfl rfl rfl 9 (by decide) q1055 rfl rfl (rfl) (rfl) (Nat.le_of_ble_eq_true rfl) (ps' := [[(y, .inr (11, [.ref ce, .ref ha, .ref wa, .int fl, .int co, .int no, .int ri, .int fe, .int bl, .int (c2 + (2 * b))]))], [(ce, .inl (G.2.1 7, 5, .inr (.inr (.inr (.inr (refQ 5 Q ci))))))], [(ha, .inl (G.2.1 1, 5, .inl hs))], [(wa, .inl (G.2.1 0, 5, .inl w))], famW NC (fun ι => mcP G (Q ι) (mz ι))]) rfl ?_
  refine V_aload_n hC dX10_burn_12 0 rfl ?_
  refine V_get hC dX10_burn_13 inAX10 (mem_at 0 0 rfl rfl) rfl 2 (by decide) q1041 rfl (v := .ref wa) rfl ?_
  refine V_iconst hC dX10_burn_16 (v := 4) (by decide) ?_
  refine V_aload_n hC dX10_burn_17 0 rfl ?_
  refine V_get hC dX10_burn_18 inAX10 (mem_at 0 0 rfl rfl) rfl 2 (by decide) q1041 rfl (v := .ref wa) rfl ?_
  refine V_iconst hC dX10_burn_21 (v := 4) (by decide) ?_
  refine V_iald hC dX10_burn_22 (mem_at 3 0 rfl rfl) (vin (by decide)) (x := 4) (by decide) ?_
  refine V_iconst hC dX10_burn_23 (v := 3) (by decide) ?_
  refine V_iload_n hC dX10_burn_24 1 rfl ?_
  refine V_imul hC dX10_burn_25 ?_
  refine V_iadd hC dX10_burn_26 ?_
  refine V_iconst hC dX10_burn_27 (v := 2) (by decide) ?_
  refine V_idiv hC dX10_burn_28 (by decide) ?_
  refine V_iast hC dX10_burn_29 3 0 rfl rfl (vin (by decide)) (z := 4) (by decide) (ps' := [[(y, .inr (11, [.ref ce, .ref ha, .ref wa, .int fl, .int co, .int no, .int ri, .int fe, .int bl, .int (c2 + (2 * b))]))], [(ce, .inl (G.2.1 7, 5, .inr (.inr (.inr (.inr (refQ 5 Q ci))))))], [(ha, .inl (G.2.1 1, 5, .inl hs))], [(wa, .inl (G.2.1 0, 5, .inl (upd w 4 (((w 4) + (3 * b)) / 2))))], famW NC (fun ι => mcP G (Q ι) (mz ι))]) rfl ?_
  refine V_iconst hC dX10_burn_30 (v := 3) (by decide) ?_
  refine V_istore_n hC dX10_burn_31 (L' := [(2, .int 3), (0, .ref y), (1, .int b)]) (by decide) rfl ?_
  have ch1_4 : V pP l eE { frames := 2, cells := 0, slots := 0, locals := 43 } sS mM aA bB tT cC QQ G AA 3 [[(y, .inr (11, [.ref ce, .ref ha, .ref wa, .int fl, .int co, .int no, .int ri, .int fe, .int bl, .int (c2 + 2 * b)]))], [(ce, .inl (G.2.1 7, 5, .inr (.inr (.inr (.inr (refQ 5 Q ci))))))], [(ha, .inl (G.2.1 1, 5, .inl hs))], [(wa, .inl (G.2.1 0, 5, .inl (wm0 v w b)))], famW NC (fun ι => mcP G (Q ι) (mz ι))] 0 0 32 [(0, .ref y), (1, .int b), (2, .int (-1))] [] := by
    refine V_iload_n hC dX10_burn_32 2 rfl ?_
    refine V_if_ltT hC dX10_burn_33 (tgt := 98) (by decide) (by decide) ?_
    refine V_iconst hC dX10_burn_98 (v := 0) (by decide) ?_
    refine V_istore_n hC dX10_burn_99 (L' := [(2, .int 0), (0, .ref y), (1, .int b)]) (by decide) rfl ?_
    have loop2 : ∀ (fuel : Nat) (t : Nat) (ht : t ≤ 5) (_ : 5 - t < fuel), V pP l eE { frames := 2, cells := 0, slots := 0, locals := 43 } sS mM aA bB tT cC QQ G AA 3 [[(y, .inr (11, [.ref ce, .ref ha, .ref wa, .int fl, .int co, .int no, .int ri, .int fe, .int bl, .int (kcF (wm0 v w b) v (c2 + 2 * b) t)]))], [(ce, .inl (G.2.1 7, 5, .inr (.inr (.inr (.inr (refQ 5 Q ci))))))], [(ha, .inl (G.2.1 1, 5, .inl hs))], [(wa, .inl (G.2.1 0, 5, .inl (wm0 v w b)))], famW NC (fun ι => mcP G (Q ι) ((pbF hs ci (wm0 v w b) v mz t) ι))] 0 0 100 [(0, .ref y), (1, .int b), (2, .int (nI t))] [] := by
      intro fuel
      induction fuel with
      | zero => intro t ht hm; exact absurd hm (Nat.not_lt_zero _)
      | succ fuel ih =>
        intro t ht hm
        refine V_iload_n hC dX10_burn_100 2 rfl ?_
        refine V_iconst hC dX10_burn_101 (v := 5) (by decide) ?_
        refine V_icmp_ge hC dX10_burn_102 (tgt := 144) (by decide) (fun h3 => ?_) (fun h3 => ?_)
        · have he : t = 5 := by have := nle (a := 5) h3; omega
          rw [he]
          refine V_aload_n hC dX10_burn_144 0 rfl ?_
          refine V_get hC dX10_burn_145 inAX10 (mem_at 0 0 rfl rfl) rfl 1 (by decide) q1039 rfl (v := .ref ha) rfl ?_
          refine V_iconst hC dX10_burn_148 (v := 3) (by decide) ?_
          refine V_zald hC dX10_burn_149 (mem_at 2 0 rfl rfl) (vin (by decide)) (x := 3) (by decide) ?_
          refine V_if_eq hC dX10_burn_150 (tgt := 190) (by decide) (fun h4 => ?_) (fun h4 => ?_)
          · refine V_aload_n hC dX10_burn_190 0 rfl ?_
            refine V_get hC dX10_burn_191 inAX10 (mem_at 0 0 rfl rfl) rfl 2 (by decide) q1041 rfl (v := .ref wa) rfl ?_
            refine V_iconst hC dX10_burn_194 (v := 3) (by decide) ?_
            refine V_iald hC dX10_burn_195 (mem_at 3 0 rfl rfl) (vin (by decide)) (x := 3) (by decide) ?_
            refine V_iconst hC dX10_burn_196 (v := 5) (by decide) ?_
            refine V_icmp_ge hC dX10_burn_197 (tgt := 222) (by decide) (fun h5 => ?_) (fun h5 => ?_)
            · exact V_vret hC hQ hr [0, 1, 2, 3, 4] (u := [[(y, .inr (11, [.ref ce, .ref ha, .ref wa, .int fl, .int co, .int no, .int ri, .int fe, .int bl, .int (kcF (wm0 v w b) v (c2 + 2 * b) 5)]))], [(ce, .inl (G.2.1 7, 5, .inr (.inr (.inr (.inr (refQ 5 Q ci))))))], [(ha, .inl (G.2.1 1, 5, .inl hs))], [(wa, .inl (G.2.1 0, 5, .inl (wm0 v w b)))], famW NC (fun ι => mcP G (Q ι) ((pbF hs ci (wm0 v w b) v mz 5) ι))]) (by decide) rfl (by decide) (by decide) dX10_burn_222 (by rw [kr_0 ((hvb 3 (by decide)).trans h4)]; rw [show kRing2 ((wm0 v w b) 3) ri = ri from if_pos h5, show kFall ((wm0 v w b) 3) ri fe = fe from if_pos h5])
            · refine V_aload_n hC dX10_burn_200 0 rfl ?_
              refine V_get hC dX10_burn_201 inAX10 (mem_at 0 0 rfl rfl) rfl 6 (by decide) q1049 rfl (v := .int ri) rfl ?_
              refine V_if_le hC dX10_burn_204 (tgt := 222) (by decide) (fun h6 => ?_) (fun h6 => ?_)
              · exact V_vret hC hQ hr [0, 1, 2, 3, 4] (u := [[(y, .inr (11, [.ref ce, .ref ha, .ref wa, .int fl, .int co, .int no, .int ri, .int fe, .int bl, .int (kcF (wm0 v w b) v (c2 + 2 * b) 5)]))], [(ce, .inl (G.2.1 7, 5, .inr (.inr (.inr (.inr (refQ 5 Q ci))))))], [(ha, .inl (G.2.1 1, 5, .inl hs))], [(wa, .inl (G.2.1 0, 5, .inl (wm0 v w b)))], famW NC (fun ι => mcP G (Q ι) ((pbF hs ci (wm0 v w b) v mz 5) ι))]) (by decide) rfl (by decide) (by decide) dX10_burn_222 (by rw [kr_0 ((hvb 3 (by decide)).trans h4)]; rw [show kRing2 ((wm0 v w b) 3) ri = ri from (if_neg h5).trans (if_pos h6), show kFall ((wm0 v w b) 3) ri fe = fe from (if_neg h5).trans (if_pos h6)])
              · refine V_aload_n hC dX10_burn_207 0 rfl ?_
                refine V_iconst hC dX10_burn_208 (v := 0) (by decide) ?_
                refine V_put hC dX10_burn_209 inAX10 tyX10 tyX10_ok nmX10 0 0 rfl rfl rfl 6 (by decide) q1049 rfl rfl (rfl) (rfl) (Nat.le_of_ble_eq_true rfl) (ps' := [[(y, .inr (11, [.ref ce, .ref ha, .ref wa, .int fl, .int co, .int no, .int 0, .int fe, .int bl, .int (kcF (wm0 v w b) v (c2 + 2 * b) 5)]))], [(ce, .inl (G.2.1 7, 5, .inr (.inr (.inr (.inr (refQ 5 Q ci))))))], [(ha, .inl (G.2.1 1, 5, .inl hs))], [(wa, .inl (G.2.1 0, 5, .inl (wm0 v w b)))], famW NC (fun ι => mcP G (Q ι) ((pbF hs ci (wm0 v w b) v mz 5) ι))]) rfl ?_
                refine V_aload_n hC dX10_burn_212 0 rfl ?_
                refine V_dup hC dX10_burn_213 rfl ?_
                refine V_get hC dX10_burn_214 inAX10 (mem_at 0 0 rfl rfl) rfl 7 (by decide) q1051 rfl (v := .int fe) rfl ?_
                refine V_iconst hC dX10_burn_217 (v := 1) (by decide) ?_
                refine V_iadd hC dX10_burn_218 ?_
                refine V_put hC dX10_burn_219 inAX10 tyX10 tyX10_ok nmX10 0 0 rfl rfl rfl 7 (by decide) q1051 rfl rfl (rfl) (rfl) (Nat.le_of_ble_eq_true rfl) (ps' := [[(y, .inr (11, [.ref ce, .ref ha, .ref wa, .int fl, .int co, .int no, .int 0, .int (fe + 1), .int bl, .int (kcF (wm0 v w b) v (c2 + 2 * b) 5)]))], [(ce, .inl (G.2.1 7, 5, .inr (.inr (.inr (.inr (refQ 5 Q ci))))))], [(ha, .inl (G.2.1 1, 5, .inl hs))], [(wa, .inl (G.2.1 0, 5, .inl (wm0 v w b)))], famW NC (fun ι => mcP G (Q ι) ((pbF hs ci (wm0 v w b) v mz 5) ι))]) rfl ?_
                exact V_vret hC hQ hr [0, 1, 2, 3, 4] (u := [[(y, .inr (11, [.ref ce, .ref ha, .ref wa, .int fl, .int co, .int no, .int 0, .int (fe + 1), .int bl, .int (kcF (wm0 v w b) v (c2 + 2 * b) 5)]))], [(ce, .inl (G.2.1 7, 5, .inr (.inr (.inr (.inr (refQ 5 Q ci))))))], [(ha, .inl (G.2.1 1, 5, .inl hs))], [(wa, .inl (G.2.1 0, 5, .inl (wm0 v w b)))], famW NC (fun ι => mcP G (Q ι) ((pbF hs ci (wm0 v w b) v mz 5) ι))]) (by decide) rfl (by decide) (by decide) dX10_burn_222 (by rw [kr_0 ((hvb 3 (by decide)).trans h4)]; rw [show kRing2 ((wm0 v w b) 3) ri = 0 from (if_neg h5).trans (if_neg h6), show kFall ((wm0 v w b) 3) ri fe = fe + 1 from (if_neg h5).trans (if_neg h6)])
          · refine V_aload_n hC dX10_burn_153 0 rfl ?_
            refine V_get hC dX10_burn_154 inAX10 (mem_at 0 0 rfl rfl) rfl 0 (by decide) q1037 rfl (v := .ref ce) rfl ?_
            refine V_iconst hC dX10_burn_157 (v := 3) (by decide) ?_
            refine V_aald hC dX10_burn_158 7 rfl (mem_at 1 0 rfl rfl) (vin (by decide)) (x := 3) (by decide) (b := (Q (ci 3)) 0) (rfl) ?_
            refine V_sub [4, 0, 1, 2, 3] (by decide) (u := [famW NC (fun ι => mcP G (Q ι) ((pbF hs ci (wm0 v w b) v mz 5) ι)), [(y, .inr (11, [.ref ce, .ref ha, .ref wa, .int fl, .int co, .int no, .int ri, .int fe, .int bl, .int (kcF (wm0 v w b) v (c2 + 2 * b) 5)]))], [(ce, .inl (G.2.1 7, 5, .inr (.inr (.inr (.inr (refQ 5 Q ci))))))], [(ha, .inl (G.2.1 1, 5, .inl hs))], [(wa, .inl (G.2.1 0, 5, .inl (wm0 v w b)))]]) rfl ?_
            refine V_open (i := ci 3) (hci 3 (by decide)) ?_
            refine V_calli hC (V_runV hC (rest := []) [] (c_X9_melt l G (Q (ci 3)) ((pbF hs ci (wm0 v w b) v mz 5) (ci 3))) [0] rfl (by decide) q1349 q1346 q1347 q57 q1348 ⟨by decide, by decide, rfl⟩ ⟨by decide, by decide⟩ (ci := 10) rfl (mem_at 0 0 rfl rfl) rfl (Nat.le_of_ble_eq_true rfl) ⟨by decide, by decide⟩ dX10_burn_159) (is := [0]) rfl [1, 2, 3, 4, 5] (rs := [famX NC (ci 3) (fun ι => mcP G (Q ι) ((pbF hs ci (wm0 v w b) v mz 5) ι)), [(y, .inr (11, [.ref ce, .ref ha, .ref wa, .int fl, .int co, .int no, .int ri, .int fe, .int bl, .int (kcF (wm0 v w b) v (c2 + 2 * b) 5)]))], [(ce, .inl (G.2.1 7, 5, .inr (.inr (.inr (.inr (refQ 5 Q ci))))))], [(ha, .inl (G.2.1 1, 5, .inl hs))], [(wa, .inl (G.2.1 0, 5, .inl (wm0 v w b)))]]) rfl (by decide) (by decide) ?_
            rintro _ _ ⟨rfl, rfl⟩
            refine V_eqi (y := mxMelt (v 3).2.1) (by have h9 := hvr 3 (by decide) h4; rw [show (pbF hs ci (wm0 v w b) v mz 5 (ci 3)).2 = _ from pbF_ox, ← h9.2.2.2.2.2.2.2.1, ← h9.2.2.2.2.2.2.2.2]; rfl) ?_
            refine V_close (i := ci 3) (g' := fun ι => mcP G (Q ι) ((pbF hs ci (wm0 v w b) v mz 5) ι)) (hci 3 (by decide)) (rfl) (fun _ _ _ => rfl) ?_
            refine V_iconst hC dX10_burn_162 (v := 5) (by decide) ?_
            refine V_icmp_le hC dX10_burn_163 (tgt := 190) (by decide) (fun h7 => ?_) (fun h7 => ?_)
            · refine V_aload_n hC dX10_burn_190 0 rfl ?_
              refine V_get hC dX10_burn_191 inAX10 (mem_at 1 0 rfl rfl) rfl 2 (by decide) q1041 rfl (v := .ref wa) rfl ?_
              refine V_iconst hC dX10_burn_194 (v := 3) (by decide) ?_
              refine V_iald hC dX10_burn_195 (mem_at 4 0 rfl rfl) (vin (by decide)) (x := 3) (by decide) ?_
              refine V_iconst hC dX10_burn_196 (v := 5) (by decide) ?_
              refine V_icmp_ge hC dX10_burn_197 (tgt := 222) (by decide) (fun h8 => ?_) (fun h8 => ?_)
              · exact V_vret hC hQ hr [1, 2, 3, 4, 0] (u := [[(y, .inr (11, [.ref ce, .ref ha, .ref wa, .int fl, .int co, .int no, .int ri, .int fe, .int bl, .int (kcF (wm0 v w b) v (c2 + 2 * b) 5)]))], [(ce, .inl (G.2.1 7, 5, .inr (.inr (.inr (.inr (refQ 5 Q ci))))))], [(ha, .inl (G.2.1 1, 5, .inl hs))], [(wa, .inl (G.2.1 0, 5, .inl (wm0 v w b)))], famW NC (fun ι => mcP G (Q ι) ((pbF hs ci (wm0 v w b) v mz 5) ι))]) (by decide) rfl (by decide) (by decide) dX10_burn_222 (by rw [kr_1 h7]; rw [show kRing2 ((wm0 v w b) 3) ri = ri from if_pos h8, show kFall ((wm0 v w b) 3) ri fe = fe from if_pos h8])
              · refine V_aload_n hC dX10_burn_200 0 rfl ?_
                refine V_get hC dX10_burn_201 inAX10 (mem_at 1 0 rfl rfl) rfl 6 (by decide) q1049 rfl (v := .int ri) rfl ?_
                refine V_if_le hC dX10_burn_204 (tgt := 222) (by decide) (fun h9 => ?_) (fun h9 => ?_)
                · exact V_vret hC hQ hr [1, 2, 3, 4, 0] (u := [[(y, .inr (11, [.ref ce, .ref ha, .ref wa, .int fl, .int co, .int no, .int ri, .int fe, .int bl, .int (kcF (wm0 v w b) v (c2 + 2 * b) 5)]))], [(ce, .inl (G.2.1 7, 5, .inr (.inr (.inr (.inr (refQ 5 Q ci))))))], [(ha, .inl (G.2.1 1, 5, .inl hs))], [(wa, .inl (G.2.1 0, 5, .inl (wm0 v w b)))], famW NC (fun ι => mcP G (Q ι) ((pbF hs ci (wm0 v w b) v mz 5) ι))]) (by decide) rfl (by decide) (by decide) dX10_burn_222 (by rw [kr_1 h7]; rw [show kRing2 ((wm0 v w b) 3) ri = ri from (if_neg h8).trans (if_pos h9), show kFall ((wm0 v w b) 3) ri fe = fe from (if_neg h8).trans (if_pos h9)])
                · refine V_aload_n hC dX10_burn_207 0 rfl ?_
                  refine V_iconst hC dX10_burn_208 (v := 0) (by decide) ?_
                  refine V_put hC dX10_burn_209 inAX10 tyX10 tyX10_ok nmX10 1 0 rfl rfl rfl 6 (by decide) q1049 rfl rfl (rfl) (rfl) (Nat.le_of_ble_eq_true rfl) (ps' := [famW NC (fun ι => mcP G (Q ι) ((pbF hs ci (wm0 v w b) v mz 5) ι)), [(y, .inr (11, [.ref ce, .ref ha, .ref wa, .int fl, .int co, .int no, .int 0, .int fe, .int bl, .int (kcF (wm0 v w b) v (c2 + 2 * b) 5)]))], [(ce, .inl (G.2.1 7, 5, .inr (.inr (.inr (.inr (refQ 5 Q ci))))))], [(ha, .inl (G.2.1 1, 5, .inl hs))], [(wa, .inl (G.2.1 0, 5, .inl (wm0 v w b)))]]) rfl ?_
                  refine V_aload_n hC dX10_burn_212 0 rfl ?_
                  refine V_dup hC dX10_burn_213 rfl ?_
                  refine V_get hC dX10_burn_214 inAX10 (mem_at 1 0 rfl rfl) rfl 7 (by decide) q1051 rfl (v := .int fe) rfl ?_
                  refine V_iconst hC dX10_burn_217 (v := 1) (by decide) ?_
                  refine V_iadd hC dX10_burn_218 ?_
                  refine V_put hC dX10_burn_219 inAX10 tyX10 tyX10_ok nmX10 1 0 rfl rfl rfl 7 (by decide) q1051 rfl rfl (rfl) (rfl) (Nat.le_of_ble_eq_true rfl) (ps' := [famW NC (fun ι => mcP G (Q ι) ((pbF hs ci (wm0 v w b) v mz 5) ι)), [(y, .inr (11, [.ref ce, .ref ha, .ref wa, .int fl, .int co, .int no, .int 0, .int (fe + 1), .int bl, .int (kcF (wm0 v w b) v (c2 + 2 * b) 5)]))], [(ce, .inl (G.2.1 7, 5, .inr (.inr (.inr (.inr (refQ 5 Q ci))))))], [(ha, .inl (G.2.1 1, 5, .inl hs))], [(wa, .inl (G.2.1 0, 5, .inl (wm0 v w b)))]]) rfl ?_
                  exact V_vret hC hQ hr [1, 2, 3, 4, 0] (u := [[(y, .inr (11, [.ref ce, .ref ha, .ref wa, .int fl, .int co, .int no, .int 0, .int (fe + 1), .int bl, .int (kcF (wm0 v w b) v (c2 + 2 * b) 5)]))], [(ce, .inl (G.2.1 7, 5, .inr (.inr (.inr (.inr (refQ 5 Q ci))))))], [(ha, .inl (G.2.1 1, 5, .inl hs))], [(wa, .inl (G.2.1 0, 5, .inl (wm0 v w b)))], famW NC (fun ι => mcP G (Q ι) ((pbF hs ci (wm0 v w b) v mz 5) ι))]) (by decide) rfl (by decide) (by decide) dX10_burn_222 (by rw [kr_1 h7]; rw [show kRing2 ((wm0 v w b) 3) ri = 0 from (if_neg h8).trans (if_neg h9), show kFall ((wm0 v w b) 3) ri fe = fe + 1 from (if_neg h8).trans (if_neg h9)])
            · refine V_aload_n hC dX10_burn_166 0 rfl ?_
              refine V_get hC dX10_burn_167 inAX10 (mem_at 1 0 rfl rfl) rfl 2 (by decide) q1041 rfl (v := .ref wa) rfl ?_
              refine V_iconst hC dX10_burn_170 (v := 3) (by decide) ?_
              refine V_iald hC dX10_burn_171 (mem_at 4 0 rfl rfl) (vin (by decide)) (x := 3) (by decide) ?_
              refine V_bipush hC dX10_burn_172 (v := 7) (by decide) ?_
              refine V_icmp_le hC dX10_burn_174 (tgt := 190) (by decide) (fun h10 => ?_) (fun h10 => ?_)
              · refine V_aload_n hC dX10_burn_190 0 rfl ?_
                refine V_get hC dX10_burn_191 inAX10 (mem_at 1 0 rfl rfl) rfl 2 (by decide) q1041 rfl (v := .ref wa) rfl ?_
                refine V_iconst hC dX10_burn_194 (v := 3) (by decide) ?_
                refine V_iald hC dX10_burn_195 (mem_at 4 0 rfl rfl) (vin (by decide)) (x := 3) (by decide) ?_
                refine V_iconst hC dX10_burn_196 (v := 5) (by decide) ?_
                refine V_icmp_ge hC dX10_burn_197 (tgt := 222) (by decide) (fun h11 => ?_) (fun h11 => ?_)
                · exact V_vret hC hQ hr [1, 2, 3, 4, 0] (u := [[(y, .inr (11, [.ref ce, .ref ha, .ref wa, .int fl, .int co, .int no, .int ri, .int fe, .int bl, .int (kcF (wm0 v w b) v (c2 + 2 * b) 5)]))], [(ce, .inl (G.2.1 7, 5, .inr (.inr (.inr (.inr (refQ 5 Q ci))))))], [(ha, .inl (G.2.1 1, 5, .inl hs))], [(wa, .inl (G.2.1 0, 5, .inl (wm0 v w b)))], famW NC (fun ι => mcP G (Q ι) ((pbF hs ci (wm0 v w b) v mz 5) ι))]) (by decide) rfl (by decide) (by decide) dX10_burn_222 (by rw [kr_2 h10]; rw [show kRing2 ((wm0 v w b) 3) ri = ri from if_pos h11, show kFall ((wm0 v w b) 3) ri fe = fe from if_pos h11])
                · refine V_aload_n hC dX10_burn_200 0 rfl ?_
                  refine V_get hC dX10_burn_201 inAX10 (mem_at 1 0 rfl rfl) rfl 6 (by decide) q1049 rfl (v := .int ri) rfl ?_
                  refine V_if_le hC dX10_burn_204 (tgt := 222) (by decide) (fun h12 => ?_) (fun h12 => ?_)
                  · exact V_vret hC hQ hr [1, 2, 3, 4, 0] (u := [[(y, .inr (11, [.ref ce, .ref ha, .ref wa, .int fl, .int co, .int no, .int ri, .int fe, .int bl, .int (kcF (wm0 v w b) v (c2 + 2 * b) 5)]))], [(ce, .inl (G.2.1 7, 5, .inr (.inr (.inr (.inr (refQ 5 Q ci))))))], [(ha, .inl (G.2.1 1, 5, .inl hs))], [(wa, .inl (G.2.1 0, 5, .inl (wm0 v w b)))], famW NC (fun ι => mcP G (Q ι) ((pbF hs ci (wm0 v w b) v mz 5) ι))]) (by decide) rfl (by decide) (by decide) dX10_burn_222 (by rw [kr_2 h10]; rw [show kRing2 ((wm0 v w b) 3) ri = ri from (if_neg h11).trans (if_pos h12), show kFall ((wm0 v w b) 3) ri fe = fe from (if_neg h11).trans (if_pos h12)])
                  · refine V_aload_n hC dX10_burn_207 0 rfl ?_
                    refine V_iconst hC dX10_burn_208 (v := 0) (by decide) ?_
                    refine V_put hC dX10_burn_209 inAX10 tyX10 tyX10_ok nmX10 1 0 rfl rfl rfl 6 (by decide) q1049 rfl rfl (rfl) (rfl) (Nat.le_of_ble_eq_true rfl) (ps' := [famW NC (fun ι => mcP G (Q ι) ((pbF hs ci (wm0 v w b) v mz 5) ι)), [(y, .inr (11, [.ref ce, .ref ha, .ref wa, .int fl, .int co, .int no, .int 0, .int fe, .int bl, .int (kcF (wm0 v w b) v (c2 + 2 * b) 5)]))], [(ce, .inl (G.2.1 7, 5, .inr (.inr (.inr (.inr (refQ 5 Q ci))))))], [(ha, .inl (G.2.1 1, 5, .inl hs))], [(wa, .inl (G.2.1 0, 5, .inl (wm0 v w b)))]]) rfl ?_
                    refine V_aload_n hC dX10_burn_212 0 rfl ?_
                    refine V_dup hC dX10_burn_213 rfl ?_
                    refine V_get hC dX10_burn_214 inAX10 (mem_at 1 0 rfl rfl) rfl 7 (by decide) q1051 rfl (v := .int fe) rfl ?_
                    refine V_iconst hC dX10_burn_217 (v := 1) (by decide) ?_
                    refine V_iadd hC dX10_burn_218 ?_
                    refine V_put hC dX10_burn_219 inAX10 tyX10 tyX10_ok nmX10 1 0 rfl rfl rfl 7 (by decide) q1051 rfl rfl (rfl) (rfl) (Nat.le_of_ble_eq_true rfl) (ps' := [famW NC (fun ι => mcP G (Q ι) ((pbF hs ci (wm0 v w b) v mz 5) ι)), [(y, .inr (11, [.ref ce, .ref ha, .ref wa, .int fl, .int co, .int no, .int 0, .int (fe + 1), .int bl, .int (kcF (wm0 v w b) v (c2 + 2 * b) 5)]))], [(ce, .inl (G.2.1 7, 5, .inr (.inr (.inr (.inr (refQ 5 Q ci))))))], [(ha, .inl (G.2.1 1, 5, .inl hs))], [(wa, .inl (G.2.1 0, 5, .inl (wm0 v w b)))]]) rfl ?_
                    exact V_vret hC hQ hr [1, 2, 3, 4, 0] (u := [[(y, .inr (11, [.ref ce, .ref ha, .ref wa, .int fl, .int co, .int no, .int 0, .int (fe + 1), .int bl, .int (kcF (wm0 v w b) v (c2 + 2 * b) 5)]))], [(ce, .inl (G.2.1 7, 5, .inr (.inr (.inr (.inr (refQ 5 Q ci))))))], [(ha, .inl (G.2.1 1, 5, .inl hs))], [(wa, .inl (G.2.1 0, 5, .inl (wm0 v w b)))], famW NC (fun ι => mcP G (Q ι) ((pbF hs ci (wm0 v w b) v mz 5) ι))]) (by decide) rfl (by decide) (by decide) dX10_burn_222 (by rw [kr_2 h10]; rw [show kRing2 ((wm0 v w b) 3) ri = 0 from (if_neg h11).trans (if_neg h12), show kFall ((wm0 v w b) 3) ri fe = fe + 1 from (if_neg h11).trans (if_neg h12)])
              · refine V_aload_n hC dX10_burn_177 0 rfl ?_
                refine V_dup hC dX10_burn_178 rfl ?_
                refine V_get hC dX10_burn_179 inAX10 (mem_at 1 0 rfl rfl) rfl 6 (by decide) q1049 rfl (v := .int ri) rfl ?_
                refine V_iconst hC dX10_burn_182 (v := 1) (by decide) ?_
                refine V_iadd hC dX10_burn_183 ?_
                refine V_put hC dX10_burn_184 inAX10 tyX10 tyX10_ok nmX10 1 0 rfl rfl rfl 6 (by decide) q1049 rfl rfl (rfl) (rfl) (Nat.le_of_ble_eq_true rfl) (ps' := [famW NC (fun ι => mcP G (Q ι) ((pbF hs ci (wm0 v w b) v mz 5) ι)), [(y, .inr (11, [.ref ce, .ref ha, .ref wa, .int fl, .int co, .int no, .int (ri + 1), .int fe, .int bl, .int (kcF (wm0 v w b) v (c2 + 2 * b) 5)]))], [(ce, .inl (G.2.1 7, 5, .inr (.inr (.inr (.inr (refQ 5 Q ci))))))], [(ha, .inl (G.2.1 1, 5, .inl hs))], [(wa, .inl (G.2.1 0, 5, .inl (wm0 v w b)))]]) rfl ?_
                refine V_goto hC dX10_burn_187 (tgt := 222) (by decide) ?_
                exact V_vret hC hQ hr [1, 2, 3, 4, 0] (u := [[(y, .inr (11, [.ref ce, .ref ha, .ref wa, .int fl, .int co, .int no, .int (ri + 1), .int fe, .int bl, .int (kcF (wm0 v w b) v (c2 + 2 * b) 5)]))], [(ce, .inl (G.2.1 7, 5, .inr (.inr (.inr (.inr (refQ 5 Q ci))))))], [(ha, .inl (G.2.1 1, 5, .inl hs))], [(wa, .inl (G.2.1 0, 5, .inl (wm0 v w b)))], famW NC (fun ι => mcP G (Q ι) ((pbF hs ci (wm0 v w b) v mz 5) ι))]) (by decide) rfl (by decide) (by decide) dX10_burn_222 (by have h9 := kr_y (ri := ri) (fe := fe) (fun e => h4 ((hvb 3 (by decide)).symm.trans e)) h7 h10; rw [h9.1, h9.2])
        · have hlt : t < 5 := nnle (a := 5) h3
          refine V_aload_n hC dX10_burn_105 0 rfl ?_
          refine V_get hC dX10_burn_106 inAX10 (mem_at 0 0 rfl rfl) rfl 1 (by decide) q1039 rfl (v := .ref ha) rfl ?_
          refine V_iload_n hC dX10_burn_109 2 rfl ?_
          refine V_zald hC dX10_burn_110 (mem_at 2 0 rfl rfl) (vp_in_nI (by omega) (by omega)) (x := t) (nI_clamp (by omega)) ?_
          refine V_if_eq hC dX10_burn_111 (tgt := 138) (by decide) (fun h13 => ?_) (fun h13 => ?_)
          · refine V_iinc hC dX10_burn_138 (v := nI (t + 1)) (L' := [(2, .int (nI (t + 1))), (0, .ref y), (1, .int b)]) (j := 2) rfl (nI_1 _) (by decide) rfl ?_
            refine V_goto hC dX10_burn_141 (tgt := 100) (by decide) ?_
            refine V_loc (L' := [(0, .ref y), (1, .int b), (2, .int (nI (t + 1)))]) [1, 2, 0] rfl ?_
            have hh := ih (t + 1) (by omega) (by omega)
            rw [kcF_skip ((hvb t hlt).trans h13), pbF_skip h13] at hh
            exact hh
          · refine V_aload_n hC dX10_burn_114 0 rfl ?_
            refine V_dup hC dX10_burn_115 rfl ?_
            refine V_get hC dX10_burn_116 inAX10 (mem_at 0 0 rfl rfl) rfl 9 (by decide) q1055 rfl (v := .int (kcF (wm0 v w b) v (c2 + 2 * b) t)) rfl ?_
            refine V_aload_n hC dX10_burn_119 0 rfl ?_
            refine V_get hC dX10_burn_120 inAX10 (mem_at 0 0 rfl rfl) rfl 0 (by decide) q1037 rfl (v := .ref ce) rfl ?_
            refine V_iload_n hC dX10_burn_123 2 rfl ?_
            refine V_aald hC dX10_burn_124 7 rfl (mem_at 1 0 rfl rfl) (vp_in_nI (by omega) (by omega)) (x := t) (nI_clamp (by omega)) (b := (Q (ci t)) 0) (refQ_at (by first | assumption | omega)) ?_
            refine V_aload_n hC dX10_burn_125 0 rfl ?_
            refine V_get hC dX10_burn_126 inAX10 (mem_at 0 0 rfl rfl) rfl 2 (by decide) q1041 rfl (v := .ref wa) rfl ?_
            refine V_iload_n hC dX10_burn_129 2 rfl ?_
            refine V_iald hC dX10_burn_130 (mem_at 3 0 rfl rfl) (vp_in_nI (by omega) (by omega)) (x := t) (nI_clamp (by omega)) ?_
            refine V_eqi (y := nI (wu t)) ((hwu t hlt).1) ?_
            refine V_sub [4, 0, 1, 2, 3] (by decide) (u := [famW NC (fun ι => mcP G (Q ι) ((pbF hs ci (wm0 v w b) v mz t) ι)), [(y, .inr (11, [.ref ce, .ref ha, .ref wa, .int fl, .int co, .int no, .int ri, .int fe, .int bl, .int (kcF (wm0 v w b) v (c2 + 2 * b) t)]))], [(ce, .inl (G.2.1 7, 5, .inr (.inr (.inr (.inr (refQ 5 Q ci))))))], [(ha, .inl (G.2.1 1, 5, .inl hs))], [(wa, .inl (G.2.1 0, 5, .inl (wm0 v w b)))]]) rfl ?_
            refine V_open (i := ci t) (hci t hlt) ?_
            refine V_calli hC (V_runV hC (rest := [.int (kcF (wm0 v w b) v (c2 + 2 * b) t), .ref y]) [.int (nI (wu t))] (c_X9_burn l G (Q (ci t)) ((pbF hs ci (wm0 v w b) v mz t) (ci t)) (v t) (wu t) (hvn t hlt h13) (by show cmR (v t) (pbF hs ci _ v mz t (ci t)); rw [pbF_ne (fun s h1 h2 => decI_ne hdec (by omega) hlt h2 h13 (by omega))]; exact hvr t hlt h13) (hwu t hlt).2) [0] rfl (by decide) q1339 q1340 q1341 q57 q1342 ⟨by decide, by decide, rfl⟩ ⟨by decide, by decide⟩ (ci := 10) rfl (mem_at 0 0 rfl rfl) rfl (Nat.le_of_ble_eq_true rfl) ⟨by decide, by decide⟩ dX10_burn_131) (is := [0]) rfl [1, 2, 3, 4, 5] (rs := [famX NC (ci t) (fun ι => mcP G (Q ι) ((pbF hs ci (wm0 v w b) v mz t) ι)), [(y, .inr (11, [.ref ce, .ref ha, .ref wa, .int fl, .int co, .int no, .int ri, .int fe, .int bl, .int (kcF (wm0 v w b) v (c2 + 2 * b) t)]))], [(ce, .inl (G.2.1 7, 5, .inr (.inr (.inr (.inr (refQ 5 Q ci))))))], [(ha, .inl (G.2.1 1, 5, .inl hs))], [(wa, .inl (G.2.1 0, 5, .inl (wm0 v w b)))]]) rfl (by decide) (by decide) ?_
            rintro _ _ ⟨rfl, rfl⟩
            refine V_eqi (y := bnA ((wm0 v w b) t) ((v t).1 1)) (by rw [(hwu t hlt).1]) ?_
            refine V_iadd hC dX10_burn_134 ?_
            refine V_put hC dX10_burn_135 inAX10 tyX10 tyX10_ok nmX10 2 0 rfl rfl rfl 9 (by decide) q1055 rfl rfl (rfl) (rfl) (Nat.le_of_ble_eq_true rfl) (ps' := [mcP G (Q (ci t)) (mvS ((pbF hs ci (wm0 v w b) v mz t) (ci t)) (chBurn (nI (wu t)) (v t))), famX NC (ci t) (fun ι => mcP G (Q ι) ((pbF hs ci (wm0 v w b) v mz t) ι)), [(y, .inr (11, [.ref ce, .ref ha, .ref wa, .int fl, .int co, .int no, .int ri, .int fe, .int bl, .int ((kcF (wm0 v w b) v (c2 + 2 * b) t) + (bnA ((wm0 v w b) t) ((v t).1 1)))]))], [(ce, .inl (G.2.1 7, 5, .inr (.inr (.inr (.inr (refQ 5 Q ci))))))], [(ha, .inl (G.2.1 1, 5, .inl hs))], [(wa, .inl (G.2.1 0, 5, .inl (wm0 v w b)))]]) rfl ?_
            refine V_close (i := ci t) (g' := fun ι => mcP G (Q ι) ((pbF hs ci (wm0 v w b) v mz (t + 1)) ι)) (hci t hlt) (by show mcP G _ (pbF hs ci _ v mz (t + 1) (ci t)) = _; rw [pbF_hit h13, va_up_eq, (hwu t hlt).1]) (fun j _ hne => by show mcP G _ (pbF hs ci _ v mz (t + 1) j) = mcP G _ (pbF hs ci _ v mz t j); rw [pbF_hit h13]; show mcP G _ (if j = ci t then _ else _) = _; rw [if_neg hne]) ?_
            refine V_iinc hC dX10_burn_138 (v := nI (t + 1)) (L' := [(2, .int (nI (t + 1))), (0, .ref y), (1, .int b)]) (j := 2) rfl (nI_1 _) (by decide) rfl ?_
            refine V_goto hC dX10_burn_141 (tgt := 100) (by decide) ?_
            refine V_loc (L' := [(0, .ref y), (1, .int b), (2, .int (nI (t + 1)))]) [1, 2, 0] rfl ?_
            refine V_sub [1, 2, 3, 4, 0] (by decide) (u := [[(y, .inr (11, [.ref ce, .ref ha, .ref wa, .int fl, .int co, .int no, .int ri, .int fe, .int bl, .int ((kcF (wm0 v w b) v (c2 + 2 * b) t) + (bnA ((wm0 v w b) t) ((v t).1 1)))]))], [(ce, .inl (G.2.1 7, 5, .inr (.inr (.inr (.inr (refQ 5 Q ci))))))], [(ha, .inl (G.2.1 1, 5, .inl hs))], [(wa, .inl (G.2.1 0, 5, .inl (wm0 v w b)))], famW NC (fun ι => mcP G (Q ι) ((pbF hs ci (wm0 v w b) v mz (t + 1)) ι))]) rfl ?_
            have hh := ih (t + 1) (by omega) (by omega)
            rw [kcF_hit (fun e => h13 ((hvb t hlt).symm.trans e))] at hh
            exact hh
    refine V_loc (L' := [(0, .ref y), (1, .int b), (2, .int 0)]) [1, 2, 0] rfl ?_
    exact loop2 6 0 (by omega) (by omega)
  have ch1_3 : V pP l eE { frames := 2, cells := 0, slots := 0, locals := 43 } sS mM aA bB tT cC QQ G AA 3 [[(y, .inr (11, [.ref ce, .ref ha, .ref wa, .int fl, .int co, .int no, .int ri, .int fe, .int bl, .int (c2 + 2 * b)]))], [(ce, .inl (G.2.1 7, 5, .inr (.inr (.inr (.inr (refQ 5 Q ci))))))], [(ha, .inl (G.2.1 1, 5, .inl hs))], [(wa, .inl (G.2.1 0, 5, .inl (wm1 v w b)))], famW NC (fun ι => mcP G (Q ι) (mz ι))] 0 0 32 [(0, .ref y), (1, .int b), (2, .int 0)] [] := by
    refine V_iload_n hC dX10_burn_32 2 rfl ?_
    refine V_if_ltF hC dX10_burn_33 (tgt := 98) (by decide) (by decide) ?_
    refine V_aload_n hC dX10_burn_36 0 rfl ?_
    refine V_get hC dX10_burn_37 inAX10 (mem_at 0 0 rfl rfl) rfl 2 (by decide) q1041 rfl (v := .ref wa) rfl ?_
    refine V_iload_n hC dX10_burn_40 2 rfl ?_
    refine V_iconst hC dX10_burn_41 (v := 0) (by decide) ?_
    refine V_aload_n hC dX10_burn_42 0 rfl ?_
    refine V_get hC dX10_burn_43 inAX10 (mem_at 0 0 rfl rfl) rfl 2 (by decide) q1041 rfl (v := .ref wa) rfl ?_
    refine V_iload_n hC dX10_burn_46 2 rfl ?_
    refine V_iald hC dX10_burn_47 (mem_at 3 0 rfl rfl) (vin (by decide)) (x := 0) (by decide) ?_
    refine V_iconst hC dX10_burn_48 (v := 2) (by decide) ?_
    refine V_aload_n hC dX10_burn_49 0 rfl ?_
    refine V_get hC dX10_burn_50 inAX10 (mem_at 0 0 rfl rfl) rfl 2 (by decide) q1041 rfl (v := .ref wa) rfl ?_
    refine V_iload_n hC dX10_burn_53 2 rfl ?_
    refine V_iconst hC dX10_burn_54 (v := 1) (by decide) ?_
    refine V_iadd hC dX10_burn_55 ?_
    refine V_eqi (y := 1) (by decide) ?_
    refine V_iald hC dX10_burn_56 (mem_at 3 0 rfl rfl) (vin (by decide)) (x := 1) (by decide) ?_
    refine V_imul hC dX10_burn_57 ?_
    refine V_iadd hC dX10_burn_58 ?_
    refine V_iconst hC dX10_burn_59 (v := 3) (by decide) ?_
    refine V_idiv hC dX10_burn_60 (by decide) ?_
    refine V_aload_n hC dX10_burn_61 0 rfl ?_
    refine V_get hC dX10_burn_62 inAX10 (mem_at 0 0 rfl rfl) rfl 1 (by decide) q1039 rfl (v := .ref ha) rfl ?_
    refine V_iload_n hC dX10_burn_65 2 rfl ?_
    refine V_zald hC dX10_burn_66 (mem_at 2 0 rfl rfl) (vin (by decide)) (x := 0) (by decide) ?_
    refine V_if_eq hC dX10_burn_67 (tgt := 86) (by decide) (fun h14 => ?_) (fun h14 => ?_)
    · refine V_iconst hC dX10_burn_86 (v := 0) (by decide) ?_
      refine V_isub hC dX10_burn_87 ?_
      refine V_mmax hC q1338 q694 q65 q695 (by decide) (Nat.le_of_ble_eq_true rfl) (by decide) (by decide) dX10_burn_88 ?_
      refine V_eqi (y := wmCell (v 0) ((wm1 v w b) 0) ((wm1 v w b) 1)) (wmC_0 ((hvb 0 (by decide)).trans h14)) ?_
      refine V_iast hC dX10_burn_91 3 0 rfl rfl (vin (by decide)) (z := 0) (by decide) (ps' := [[(y, .inr (11, [.ref ce, .ref ha, .ref wa, .int fl, .int co, .int no, .int ri, .int fe, .int bl, .int (c2 + 2 * b)]))], [(ce, .inl (G.2.1 7, 5, .inr (.inr (.inr (.inr (refQ 5 Q ci))))))], [(ha, .inl (G.2.1 1, 5, .inl hs))], [(wa, .inl (G.2.1 0, 5, .inl (upd (wm1 v w b) 0 (wmCell (v 0) ((wm1 v w b) 0) ((wm1 v w b) 1)))))], famW NC (fun ι => mcP G (Q ι) (mz ι))]) rfl ?_
      refine V_iinc hC dX10_burn_92 (v := (-1)) (L' := [(2, .int (-1)), (0, .ref y), (1, .int b)]) (j := 2) rfl (by decide) (by decide) rfl ?_
      refine V_goto hC dX10_burn_95 (tgt := 32) (by decide) ?_
      refine V_loc (L' := [(0, .ref y), (1, .int b), (2, .int (-1))]) [1, 2, 0] rfl ?_
      rw [show (upd (wm1 v w b) 0 (wmCell (v 0) ((wm1 v w b) 0) ((wm1 v w b) 1)) : Nat → Int32) = wm0 v w b from rfl]
      exact ch1_4
    · refine V_aload_n hC dX10_burn_70 0 rfl ?_
      refine V_get hC dX10_burn_71 inAX10 (mem_at 0 0 rfl rfl) rfl 0 (by decide) q1037 rfl (v := .ref ce) rfl ?_
      refine V_iload_n hC dX10_burn_74 2 rfl ?_
      refine V_aald hC dX10_burn_75 7 rfl (mem_at 1 0 rfl rfl) (vin (by decide)) (x := 0) (by decide) (b := (Q (ci 0)) 0) (rfl) ?_
      refine V_get hC dX10_burn_76 inAX9 (mem_fam 4 0 rfl (ci 0) (hci _ (by decide)) rfl) rfl 2 (by decide) q991 rfl (v := .int (((mz (ci 0)).1) 0)) rfl ?_
      refine V_if_le hC dX10_burn_79 (tgt := 86) (by decide) (fun h15 => ?_) (fun h15 => ?_)
      · refine V_iconst hC dX10_burn_86 (v := 0) (by decide) ?_
        refine V_isub hC dX10_burn_87 ?_
        refine V_mmax hC q1338 q694 q65 q695 (by decide) (Nat.le_of_ble_eq_true rfl) (by decide) (by decide) dX10_burn_88 ?_
        refine V_eqi (y := wmCell (v 0) ((wm1 v w b) 0) ((wm1 v w b) 1)) (wmC_1 (fun e => h14 ((hvb 0 (by decide)).symm.trans e)) (by rw [(hvr 0 (by decide) h14).1]; exact h15)) ?_
        refine V_iast hC dX10_burn_91 3 0 rfl rfl (vin (by decide)) (z := 0) (by decide) (ps' := [[(y, .inr (11, [.ref ce, .ref ha, .ref wa, .int fl, .int co, .int no, .int ri, .int fe, .int bl, .int (c2 + 2 * b)]))], [(ce, .inl (G.2.1 7, 5, .inr (.inr (.inr (.inr (refQ 5 Q ci))))))], [(ha, .inl (G.2.1 1, 5, .inl hs))], [(wa, .inl (G.2.1 0, 5, .inl (upd (wm1 v w b) 0 (wmCell (v 0) ((wm1 v w b) 0) ((wm1 v w b) 1)))))], famW NC (fun ι => mcP G (Q ι) (mz ι))]) rfl ?_
        refine V_iinc hC dX10_burn_92 (v := (-1)) (L' := [(2, .int (-1)), (0, .ref y), (1, .int b)]) (j := 2) rfl (by decide) (by decide) rfl ?_
        refine V_goto hC dX10_burn_95 (tgt := 32) (by decide) ?_
        refine V_loc (L' := [(0, .ref y), (1, .int b), (2, .int (-1))]) [1, 2, 0] rfl ?_
        rw [show (upd (wm1 v w b) 0 (wmCell (v 0) ((wm1 v w b) 0) ((wm1 v w b) 1)) : Nat → Int32) = wm0 v w b from rfl]
        exact ch1_4
      · refine V_iconst hC dX10_burn_82 (v := 1) (by decide) ?_
        refine V_goto hC dX10_burn_83 (tgt := 87) (by decide) ?_
        refine V_isub hC dX10_burn_87 ?_
        refine V_mmax hC q1338 q694 q65 q695 (by decide) (Nat.le_of_ble_eq_true rfl) (by decide) (by decide) dX10_burn_88 ?_
        refine V_eqi (y := wmCell (v 0) ((wm1 v w b) 0) ((wm1 v w b) 1)) (wmC_2 (fun e => h14 ((hvb 0 (by decide)).symm.trans e)) (by rw [(hvr 0 (by decide) h14).1]; exact h15)) ?_
        refine V_iast hC dX10_burn_91 3 0 rfl rfl (vin (by decide)) (z := 0) (by decide) (ps' := [[(y, .inr (11, [.ref ce, .ref ha, .ref wa, .int fl, .int co, .int no, .int ri, .int fe, .int bl, .int (c2 + 2 * b)]))], [(ce, .inl (G.2.1 7, 5, .inr (.inr (.inr (.inr (refQ 5 Q ci))))))], [(ha, .inl (G.2.1 1, 5, .inl hs))], [(wa, .inl (G.2.1 0, 5, .inl (upd (wm1 v w b) 0 (wmCell (v 0) ((wm1 v w b) 0) ((wm1 v w b) 1)))))], famW NC (fun ι => mcP G (Q ι) (mz ι))]) rfl ?_
        refine V_iinc hC dX10_burn_92 (v := (-1)) (L' := [(2, .int (-1)), (0, .ref y), (1, .int b)]) (j := 2) rfl (by decide) (by decide) rfl ?_
        refine V_goto hC dX10_burn_95 (tgt := 32) (by decide) ?_
        refine V_loc (L' := [(0, .ref y), (1, .int b), (2, .int (-1))]) [1, 2, 0] rfl ?_
        rw [show (upd (wm1 v w b) 0 (wmCell (v 0) ((wm1 v w b) 0) ((wm1 v w b) 1)) : Nat → Int32) = wm0 v w b from rfl]
        exact ch1_4
  have ch1_2 : V pP l eE { frames := 2, cells := 0, slots := 0, locals := 43 } sS mM aA bB tT cC QQ G AA 3 [[(y, .inr (11, [.ref ce, .ref ha, .ref wa, .int fl, .int co, .int no, .int ri, .int fe, .int bl, .int (c2 + 2 * b)]))], [(ce, .inl (G.2.1 7, 5, .inr (.inr (.inr (.inr (refQ 5 Q ci))))))], [(ha, .inl (G.2.1 1, 5, .inl hs))], [(wa, .inl (G.2.1 0, 5, .inl (wm2 v w b)))], famW NC (fun ι => mcP G (Q ι) (mz ι))] 0 0 32 [(0, .ref y), (1, .int b), (2, .int 1)] [] := by
    refine V_iload_n hC dX10_burn_32 2 rfl ?_
    refine V_if_ltF hC dX10_burn_33 (tgt := 98) (by decide) (by decide) ?_
    refine V_aload_n hC dX10_burn_36 0 rfl ?_
    refine V_get hC dX10_burn_37 inAX10 (mem_at 0 0 rfl rfl) rfl 2 (by decide) q1041 rfl (v := .ref wa) rfl ?_
    refine V_iload_n hC dX10_burn_40 2 rfl ?_
    refine V_iconst hC dX10_burn_41 (v := 0) (by decide) ?_
    refine V_aload_n hC dX10_burn_42 0 rfl ?_
    refine V_get hC dX10_burn_43 inAX10 (mem_at 0 0 rfl rfl) rfl 2 (by decide) q1041 rfl (v := .ref wa) rfl ?_
    refine V_iload_n hC dX10_burn_46 2 rfl ?_
    refine V_iald hC dX10_burn_47 (mem_at 3 0 rfl rfl) (vin (by decide)) (x := 1) (by decide) ?_
    refine V_iconst hC dX10_burn_48 (v := 2) (by decide) ?_
    refine V_aload_n hC dX10_burn_49 0 rfl ?_
    refine V_get hC dX10_burn_50 inAX10 (mem_at 0 0 rfl rfl) rfl 2 (by decide) q1041 rfl (v := .ref wa) rfl ?_
    refine V_iload_n hC dX10_burn_53 2 rfl ?_
    refine V_iconst hC dX10_burn_54 (v := 1) (by decide) ?_
    refine V_iadd hC dX10_burn_55 ?_
    refine V_eqi (y := 2) (by decide) ?_
    refine V_iald hC dX10_burn_56 (mem_at 3 0 rfl rfl) (vin (by decide)) (x := 2) (by decide) ?_
    refine V_imul hC dX10_burn_57 ?_
    refine V_iadd hC dX10_burn_58 ?_
    refine V_iconst hC dX10_burn_59 (v := 3) (by decide) ?_
    refine V_idiv hC dX10_burn_60 (by decide) ?_
    refine V_aload_n hC dX10_burn_61 0 rfl ?_
    refine V_get hC dX10_burn_62 inAX10 (mem_at 0 0 rfl rfl) rfl 1 (by decide) q1039 rfl (v := .ref ha) rfl ?_
    refine V_iload_n hC dX10_burn_65 2 rfl ?_
    refine V_zald hC dX10_burn_66 (mem_at 2 0 rfl rfl) (vin (by decide)) (x := 1) (by decide) ?_
    refine V_if_eq hC dX10_burn_67 (tgt := 86) (by decide) (fun h16 => ?_) (fun h16 => ?_)
    · refine V_iconst hC dX10_burn_86 (v := 0) (by decide) ?_
      refine V_isub hC dX10_burn_87 ?_
      refine V_mmax hC q1338 q694 q65 q695 (by decide) (Nat.le_of_ble_eq_true rfl) (by decide) (by decide) dX10_burn_88 ?_
      refine V_eqi (y := wmCell (v 1) ((wm2 v w b) 1) ((wm2 v w b) 2)) (wmC_0 ((hvb 1 (by decide)).trans h16)) ?_
      refine V_iast hC dX10_burn_91 3 0 rfl rfl (vin (by decide)) (z := 1) (by decide) (ps' := [[(y, .inr (11, [.ref ce, .ref ha, .ref wa, .int fl, .int co, .int no, .int ri, .int fe, .int bl, .int (c2 + 2 * b)]))], [(ce, .inl (G.2.1 7, 5, .inr (.inr (.inr (.inr (refQ 5 Q ci))))))], [(ha, .inl (G.2.1 1, 5, .inl hs))], [(wa, .inl (G.2.1 0, 5, .inl (upd (wm2 v w b) 1 (wmCell (v 1) ((wm2 v w b) 1) ((wm2 v w b) 2)))))], famW NC (fun ι => mcP G (Q ι) (mz ι))]) rfl ?_
      refine V_iinc hC dX10_burn_92 (v := 0) (L' := [(2, .int 0), (0, .ref y), (1, .int b)]) (j := 2) rfl (by decide) (by decide) rfl ?_
      refine V_goto hC dX10_burn_95 (tgt := 32) (by decide) ?_
      refine V_loc (L' := [(0, .ref y), (1, .int b), (2, .int 0)]) [1, 2, 0] rfl ?_
      rw [show (upd (wm2 v w b) 1 (wmCell (v 1) ((wm2 v w b) 1) ((wm2 v w b) 2)) : Nat → Int32) = wm1 v w b from rfl]
      exact ch1_3
    · refine V_aload_n hC dX10_burn_70 0 rfl ?_
      refine V_get hC dX10_burn_71 inAX10 (mem_at 0 0 rfl rfl) rfl 0 (by decide) q1037 rfl (v := .ref ce) rfl ?_
      refine V_iload_n hC dX10_burn_74 2 rfl ?_
      refine V_aald hC dX10_burn_75 7 rfl (mem_at 1 0 rfl rfl) (vin (by decide)) (x := 1) (by decide) (b := (Q (ci 1)) 0) (rfl) ?_
      refine V_get hC dX10_burn_76 inAX9 (mem_fam 4 0 rfl (ci 1) (hci _ (by decide)) rfl) rfl 2 (by decide) q991 rfl (v := .int (((mz (ci 1)).1) 0)) rfl ?_
      refine V_if_le hC dX10_burn_79 (tgt := 86) (by decide) (fun h17 => ?_) (fun h17 => ?_)
      · refine V_iconst hC dX10_burn_86 (v := 0) (by decide) ?_
        refine V_isub hC dX10_burn_87 ?_
        refine V_mmax hC q1338 q694 q65 q695 (by decide) (Nat.le_of_ble_eq_true rfl) (by decide) (by decide) dX10_burn_88 ?_
        refine V_eqi (y := wmCell (v 1) ((wm2 v w b) 1) ((wm2 v w b) 2)) (wmC_1 (fun e => h16 ((hvb 1 (by decide)).symm.trans e)) (by rw [(hvr 1 (by decide) h16).1]; exact h17)) ?_
        refine V_iast hC dX10_burn_91 3 0 rfl rfl (vin (by decide)) (z := 1) (by decide) (ps' := [[(y, .inr (11, [.ref ce, .ref ha, .ref wa, .int fl, .int co, .int no, .int ri, .int fe, .int bl, .int (c2 + 2 * b)]))], [(ce, .inl (G.2.1 7, 5, .inr (.inr (.inr (.inr (refQ 5 Q ci))))))], [(ha, .inl (G.2.1 1, 5, .inl hs))], [(wa, .inl (G.2.1 0, 5, .inl (upd (wm2 v w b) 1 (wmCell (v 1) ((wm2 v w b) 1) ((wm2 v w b) 2)))))], famW NC (fun ι => mcP G (Q ι) (mz ι))]) rfl ?_
        refine V_iinc hC dX10_burn_92 (v := 0) (L' := [(2, .int 0), (0, .ref y), (1, .int b)]) (j := 2) rfl (by decide) (by decide) rfl ?_
        refine V_goto hC dX10_burn_95 (tgt := 32) (by decide) ?_
        refine V_loc (L' := [(0, .ref y), (1, .int b), (2, .int 0)]) [1, 2, 0] rfl ?_
        rw [show (upd (wm2 v w b) 1 (wmCell (v 1) ((wm2 v w b) 1) ((wm2 v w b) 2)) : Nat → Int32) = wm1 v w b from rfl]
        exact ch1_3
      · refine V_iconst hC dX10_burn_82 (v := 1) (by decide) ?_
        refine V_goto hC dX10_burn_83 (tgt := 87) (by decide) ?_
        refine V_isub hC dX10_burn_87 ?_
        refine V_mmax hC q1338 q694 q65 q695 (by decide) (Nat.le_of_ble_eq_true rfl) (by decide) (by decide) dX10_burn_88 ?_
        refine V_eqi (y := wmCell (v 1) ((wm2 v w b) 1) ((wm2 v w b) 2)) (wmC_2 (fun e => h16 ((hvb 1 (by decide)).symm.trans e)) (by rw [(hvr 1 (by decide) h16).1]; exact h17)) ?_
        refine V_iast hC dX10_burn_91 3 0 rfl rfl (vin (by decide)) (z := 1) (by decide) (ps' := [[(y, .inr (11, [.ref ce, .ref ha, .ref wa, .int fl, .int co, .int no, .int ri, .int fe, .int bl, .int (c2 + 2 * b)]))], [(ce, .inl (G.2.1 7, 5, .inr (.inr (.inr (.inr (refQ 5 Q ci))))))], [(ha, .inl (G.2.1 1, 5, .inl hs))], [(wa, .inl (G.2.1 0, 5, .inl (upd (wm2 v w b) 1 (wmCell (v 1) ((wm2 v w b) 1) ((wm2 v w b) 2)))))], famW NC (fun ι => mcP G (Q ι) (mz ι))]) rfl ?_
        refine V_iinc hC dX10_burn_92 (v := 0) (L' := [(2, .int 0), (0, .ref y), (1, .int b)]) (j := 2) rfl (by decide) (by decide) rfl ?_
        refine V_goto hC dX10_burn_95 (tgt := 32) (by decide) ?_
        refine V_loc (L' := [(0, .ref y), (1, .int b), (2, .int 0)]) [1, 2, 0] rfl ?_
        rw [show (upd (wm2 v w b) 1 (wmCell (v 1) ((wm2 v w b) 1) ((wm2 v w b) 2)) : Nat → Int32) = wm1 v w b from rfl]
        exact ch1_3
  have ch1_1 : V pP l eE { frames := 2, cells := 0, slots := 0, locals := 43 } sS mM aA bB tT cC QQ G AA 3 [[(y, .inr (11, [.ref ce, .ref ha, .ref wa, .int fl, .int co, .int no, .int ri, .int fe, .int bl, .int (c2 + 2 * b)]))], [(ce, .inl (G.2.1 7, 5, .inr (.inr (.inr (.inr (refQ 5 Q ci))))))], [(ha, .inl (G.2.1 1, 5, .inl hs))], [(wa, .inl (G.2.1 0, 5, .inl (wm3 v w b)))], famW NC (fun ι => mcP G (Q ι) (mz ι))] 0 0 32 [(0, .ref y), (1, .int b), (2, .int 2)] [] := by
    refine V_iload_n hC dX10_burn_32 2 rfl ?_
    refine V_if_ltF hC dX10_burn_33 (tgt := 98) (by decide) (by decide) ?_
    refine V_aload_n hC dX10_burn_36 0 rfl ?_
    refine V_get hC dX10_burn_37 inAX10 (mem_at 0 0 rfl rfl) rfl 2 (by decide) q1041 rfl (v := .ref wa) rfl ?_
    refine V_iload_n hC dX10_burn_40 2 rfl ?_
    refine V_iconst hC dX10_burn_41 (v := 0) (by decide) ?_
    refine V_aload_n hC dX10_burn_42 0 rfl ?_
    refine V_get hC dX10_burn_43 inAX10 (mem_at 0 0 rfl rfl) rfl 2 (by decide) q1041 rfl (v := .ref wa) rfl ?_
    refine V_iload_n hC dX10_burn_46 2 rfl ?_
    refine V_iald hC dX10_burn_47 (mem_at 3 0 rfl rfl) (vin (by decide)) (x := 2) (by decide) ?_
    refine V_iconst hC dX10_burn_48 (v := 2) (by decide) ?_
    refine V_aload_n hC dX10_burn_49 0 rfl ?_
    refine V_get hC dX10_burn_50 inAX10 (mem_at 0 0 rfl rfl) rfl 2 (by decide) q1041 rfl (v := .ref wa) rfl ?_
    refine V_iload_n hC dX10_burn_53 2 rfl ?_
    refine V_iconst hC dX10_burn_54 (v := 1) (by decide) ?_
    refine V_iadd hC dX10_burn_55 ?_
    refine V_eqi (y := 3) (by decide) ?_
    refine V_iald hC dX10_burn_56 (mem_at 3 0 rfl rfl) (vin (by decide)) (x := 3) (by decide) ?_
    refine V_imul hC dX10_burn_57 ?_
    refine V_iadd hC dX10_burn_58 ?_
    refine V_iconst hC dX10_burn_59 (v := 3) (by decide) ?_
    refine V_idiv hC dX10_burn_60 (by decide) ?_
    refine V_aload_n hC dX10_burn_61 0 rfl ?_
    refine V_get hC dX10_burn_62 inAX10 (mem_at 0 0 rfl rfl) rfl 1 (by decide) q1039 rfl (v := .ref ha) rfl ?_
    refine V_iload_n hC dX10_burn_65 2 rfl ?_
    refine V_zald hC dX10_burn_66 (mem_at 2 0 rfl rfl) (vin (by decide)) (x := 2) (by decide) ?_
    refine V_if_eq hC dX10_burn_67 (tgt := 86) (by decide) (fun h18 => ?_) (fun h18 => ?_)
    · refine V_iconst hC dX10_burn_86 (v := 0) (by decide) ?_
      refine V_isub hC dX10_burn_87 ?_
      refine V_mmax hC q1338 q694 q65 q695 (by decide) (Nat.le_of_ble_eq_true rfl) (by decide) (by decide) dX10_burn_88 ?_
      refine V_eqi (y := wmCell (v 2) ((wm3 v w b) 2) ((wm3 v w b) 3)) (wmC_0 ((hvb 2 (by decide)).trans h18)) ?_
      refine V_iast hC dX10_burn_91 3 0 rfl rfl (vin (by decide)) (z := 2) (by decide) (ps' := [[(y, .inr (11, [.ref ce, .ref ha, .ref wa, .int fl, .int co, .int no, .int ri, .int fe, .int bl, .int (c2 + 2 * b)]))], [(ce, .inl (G.2.1 7, 5, .inr (.inr (.inr (.inr (refQ 5 Q ci))))))], [(ha, .inl (G.2.1 1, 5, .inl hs))], [(wa, .inl (G.2.1 0, 5, .inl (upd (wm3 v w b) 2 (wmCell (v 2) ((wm3 v w b) 2) ((wm3 v w b) 3)))))], famW NC (fun ι => mcP G (Q ι) (mz ι))]) rfl ?_
      refine V_iinc hC dX10_burn_92 (v := 1) (L' := [(2, .int 1), (0, .ref y), (1, .int b)]) (j := 2) rfl (by decide) (by decide) rfl ?_
      refine V_goto hC dX10_burn_95 (tgt := 32) (by decide) ?_
      refine V_loc (L' := [(0, .ref y), (1, .int b), (2, .int 1)]) [1, 2, 0] rfl ?_
      rw [show (upd (wm3 v w b) 2 (wmCell (v 2) ((wm3 v w b) 2) ((wm3 v w b) 3)) : Nat → Int32) = wm2 v w b from rfl]
      exact ch1_2
    · refine V_aload_n hC dX10_burn_70 0 rfl ?_
      refine V_get hC dX10_burn_71 inAX10 (mem_at 0 0 rfl rfl) rfl 0 (by decide) q1037 rfl (v := .ref ce) rfl ?_
      refine V_iload_n hC dX10_burn_74 2 rfl ?_
      refine V_aald hC dX10_burn_75 7 rfl (mem_at 1 0 rfl rfl) (vin (by decide)) (x := 2) (by decide) (b := (Q (ci 2)) 0) (rfl) ?_
      refine V_get hC dX10_burn_76 inAX9 (mem_fam 4 0 rfl (ci 2) (hci _ (by decide)) rfl) rfl 2 (by decide) q991 rfl (v := .int (((mz (ci 2)).1) 0)) rfl ?_
      refine V_if_le hC dX10_burn_79 (tgt := 86) (by decide) (fun h19 => ?_) (fun h19 => ?_)
      · refine V_iconst hC dX10_burn_86 (v := 0) (by decide) ?_
        refine V_isub hC dX10_burn_87 ?_
        refine V_mmax hC q1338 q694 q65 q695 (by decide) (Nat.le_of_ble_eq_true rfl) (by decide) (by decide) dX10_burn_88 ?_
        refine V_eqi (y := wmCell (v 2) ((wm3 v w b) 2) ((wm3 v w b) 3)) (wmC_1 (fun e => h18 ((hvb 2 (by decide)).symm.trans e)) (by rw [(hvr 2 (by decide) h18).1]; exact h19)) ?_
        refine V_iast hC dX10_burn_91 3 0 rfl rfl (vin (by decide)) (z := 2) (by decide) (ps' := [[(y, .inr (11, [.ref ce, .ref ha, .ref wa, .int fl, .int co, .int no, .int ri, .int fe, .int bl, .int (c2 + 2 * b)]))], [(ce, .inl (G.2.1 7, 5, .inr (.inr (.inr (.inr (refQ 5 Q ci))))))], [(ha, .inl (G.2.1 1, 5, .inl hs))], [(wa, .inl (G.2.1 0, 5, .inl (upd (wm3 v w b) 2 (wmCell (v 2) ((wm3 v w b) 2) ((wm3 v w b) 3)))))], famW NC (fun ι => mcP G (Q ι) (mz ι))]) rfl ?_
        refine V_iinc hC dX10_burn_92 (v := 1) (L' := [(2, .int 1), (0, .ref y), (1, .int b)]) (j := 2) rfl (by decide) (by decide) rfl ?_
        refine V_goto hC dX10_burn_95 (tgt := 32) (by decide) ?_
        refine V_loc (L' := [(0, .ref y), (1, .int b), (2, .int 1)]) [1, 2, 0] rfl ?_
        rw [show (upd (wm3 v w b) 2 (wmCell (v 2) ((wm3 v w b) 2) ((wm3 v w b) 3)) : Nat → Int32) = wm2 v w b from rfl]
        exact ch1_2
      · refine V_iconst hC dX10_burn_82 (v := 1) (by decide) ?_
        refine V_goto hC dX10_burn_83 (tgt := 87) (by decide) ?_
        refine V_isub hC dX10_burn_87 ?_
        refine V_mmax hC q1338 q694 q65 q695 (by decide) (Nat.le_of_ble_eq_true rfl) (by decide) (by decide) dX10_burn_88 ?_
        refine V_eqi (y := wmCell (v 2) ((wm3 v w b) 2) ((wm3 v w b) 3)) (wmC_2 (fun e => h18 ((hvb 2 (by decide)).symm.trans e)) (by rw [(hvr 2 (by decide) h18).1]; exact h19)) ?_
        refine V_iast hC dX10_burn_91 3 0 rfl rfl (vin (by decide)) (z := 2) (by decide) (ps' := [[(y, .inr (11, [.ref ce, .ref ha, .ref wa, .int fl, .int co, .int no, .int ri, .int fe, .int bl, .int (c2 + 2 * b)]))], [(ce, .inl (G.2.1 7, 5, .inr (.inr (.inr (.inr (refQ 5 Q ci))))))], [(ha, .inl (G.2.1 1, 5, .inl hs))], [(wa, .inl (G.2.1 0, 5, .inl (upd (wm3 v w b) 2 (wmCell (v 2) ((wm3 v w b) 2) ((wm3 v w b) 3)))))], famW NC (fun ι => mcP G (Q ι) (mz ι))]) rfl ?_
        refine V_iinc hC dX10_burn_92 (v := 1) (L' := [(2, .int 1), (0, .ref y), (1, .int b)]) (j := 2) rfl (by decide) (by decide) rfl ?_
        refine V_goto hC dX10_burn_95 (tgt := 32) (by decide) ?_
        refine V_loc (L' := [(0, .ref y), (1, .int b), (2, .int 1)]) [1, 2, 0] rfl ?_
        rw [show (upd (wm3 v w b) 2 (wmCell (v 2) ((wm3 v w b) 2) ((wm3 v w b) 3)) : Nat → Int32) = wm2 v w b from rfl]
        exact ch1_2
  have ch1_0 : V pP l eE { frames := 2, cells := 0, slots := 0, locals := 43 } sS mM aA bB tT cC QQ G AA 3 [[(y, .inr (11, [.ref ce, .ref ha, .ref wa, .int fl, .int co, .int no, .int ri, .int fe, .int bl, .int (c2 + 2 * b)]))], [(ce, .inl (G.2.1 7, 5, .inr (.inr (.inr (.inr (refQ 5 Q ci))))))], [(ha, .inl (G.2.1 1, 5, .inl hs))], [(wa, .inl (G.2.1 0, 5, .inl (wm4 w b)))], famW NC (fun ι => mcP G (Q ι) (mz ι))] 0 0 32 [(0, .ref y), (1, .int b), (2, .int 3)] [] := by
    refine V_iload_n hC dX10_burn_32 2 rfl ?_
    refine V_if_ltF hC dX10_burn_33 (tgt := 98) (by decide) (by decide) ?_
    refine V_aload_n hC dX10_burn_36 0 rfl ?_
    refine V_get hC dX10_burn_37 inAX10 (mem_at 0 0 rfl rfl) rfl 2 (by decide) q1041 rfl (v := .ref wa) rfl ?_
    refine V_iload_n hC dX10_burn_40 2 rfl ?_
    refine V_iconst hC dX10_burn_41 (v := 0) (by decide) ?_
    refine V_aload_n hC dX10_burn_42 0 rfl ?_
    refine V_get hC dX10_burn_43 inAX10 (mem_at 0 0 rfl rfl) rfl 2 (by decide) q1041 rfl (v := .ref wa) rfl ?_
    refine V_iload_n hC dX10_burn_46 2 rfl ?_
    refine V_iald hC dX10_burn_47 (mem_at 3 0 rfl rfl) (vin (by decide)) (x := 3) (by decide) ?_
    refine V_iconst hC dX10_burn_48 (v := 2) (by decide) ?_
    refine V_aload_n hC dX10_burn_49 0 rfl ?_
    refine V_get hC dX10_burn_50 inAX10 (mem_at 0 0 rfl rfl) rfl 2 (by decide) q1041 rfl (v := .ref wa) rfl ?_
    refine V_iload_n hC dX10_burn_53 2 rfl ?_
    refine V_iconst hC dX10_burn_54 (v := 1) (by decide) ?_
    refine V_iadd hC dX10_burn_55 ?_
    refine V_eqi (y := 4) (by decide) ?_
    refine V_iald hC dX10_burn_56 (mem_at 3 0 rfl rfl) (vin (by decide)) (x := 4) (by decide) ?_
    refine V_imul hC dX10_burn_57 ?_
    refine V_iadd hC dX10_burn_58 ?_
    refine V_iconst hC dX10_burn_59 (v := 3) (by decide) ?_
    refine V_idiv hC dX10_burn_60 (by decide) ?_
    refine V_aload_n hC dX10_burn_61 0 rfl ?_
    refine V_get hC dX10_burn_62 inAX10 (mem_at 0 0 rfl rfl) rfl 1 (by decide) q1039 rfl (v := .ref ha) rfl ?_
    refine V_iload_n hC dX10_burn_65 2 rfl ?_
    refine V_zald hC dX10_burn_66 (mem_at 2 0 rfl rfl) (vin (by decide)) (x := 3) (by decide) ?_
    refine V_if_eq hC dX10_burn_67 (tgt := 86) (by decide) (fun h20 => ?_) (fun h20 => ?_)
    · refine V_iconst hC dX10_burn_86 (v := 0) (by decide) ?_
      refine V_isub hC dX10_burn_87 ?_
      refine V_mmax hC q1338 q694 q65 q695 (by decide) (Nat.le_of_ble_eq_true rfl) (by decide) (by decide) dX10_burn_88 ?_
      refine V_eqi (y := wmCell (v 3) ((wm4 w b) 3) ((wm4 w b) 4)) (wmC_0 ((hvb 3 (by decide)).trans h20)) ?_
      refine V_iast hC dX10_burn_91 3 0 rfl rfl (vin (by decide)) (z := 3) (by decide) (ps' := [[(y, .inr (11, [.ref ce, .ref ha, .ref wa, .int fl, .int co, .int no, .int ri, .int fe, .int bl, .int (c2 + 2 * b)]))], [(ce, .inl (G.2.1 7, 5, .inr (.inr (.inr (.inr (refQ 5 Q ci))))))], [(ha, .inl (G.2.1 1, 5, .inl hs))], [(wa, .inl (G.2.1 0, 5, .inl (upd (wm4 w b) 3 (wmCell (v 3) ((wm4 w b) 3) ((wm4 w b) 4)))))], famW NC (fun ι => mcP G (Q ι) (mz ι))]) rfl ?_
      refine V_iinc hC dX10_burn_92 (v := 2) (L' := [(2, .int 2), (0, .ref y), (1, .int b)]) (j := 2) rfl (by decide) (by decide) rfl ?_
      refine V_goto hC dX10_burn_95 (tgt := 32) (by decide) ?_
      refine V_loc (L' := [(0, .ref y), (1, .int b), (2, .int 2)]) [1, 2, 0] rfl ?_
      rw [show (upd (wm4 w b) 3 (wmCell (v 3) ((wm4 w b) 3) ((wm4 w b) 4)) : Nat → Int32) = wm3 v w b from rfl]
      exact ch1_1
    · refine V_aload_n hC dX10_burn_70 0 rfl ?_
      refine V_get hC dX10_burn_71 inAX10 (mem_at 0 0 rfl rfl) rfl 0 (by decide) q1037 rfl (v := .ref ce) rfl ?_
      refine V_iload_n hC dX10_burn_74 2 rfl ?_
      refine V_aald hC dX10_burn_75 7 rfl (mem_at 1 0 rfl rfl) (vin (by decide)) (x := 3) (by decide) (b := (Q (ci 3)) 0) (rfl) ?_
      refine V_get hC dX10_burn_76 inAX9 (mem_fam 4 0 rfl (ci 3) (hci _ (by decide)) rfl) rfl 2 (by decide) q991 rfl (v := .int (((mz (ci 3)).1) 0)) rfl ?_
      refine V_if_le hC dX10_burn_79 (tgt := 86) (by decide) (fun h21 => ?_) (fun h21 => ?_)
      · refine V_iconst hC dX10_burn_86 (v := 0) (by decide) ?_
        refine V_isub hC dX10_burn_87 ?_
        refine V_mmax hC q1338 q694 q65 q695 (by decide) (Nat.le_of_ble_eq_true rfl) (by decide) (by decide) dX10_burn_88 ?_
        refine V_eqi (y := wmCell (v 3) ((wm4 w b) 3) ((wm4 w b) 4)) (wmC_1 (fun e => h20 ((hvb 3 (by decide)).symm.trans e)) (by rw [(hvr 3 (by decide) h20).1]; exact h21)) ?_
        refine V_iast hC dX10_burn_91 3 0 rfl rfl (vin (by decide)) (z := 3) (by decide) (ps' := [[(y, .inr (11, [.ref ce, .ref ha, .ref wa, .int fl, .int co, .int no, .int ri, .int fe, .int bl, .int (c2 + 2 * b)]))], [(ce, .inl (G.2.1 7, 5, .inr (.inr (.inr (.inr (refQ 5 Q ci))))))], [(ha, .inl (G.2.1 1, 5, .inl hs))], [(wa, .inl (G.2.1 0, 5, .inl (upd (wm4 w b) 3 (wmCell (v 3) ((wm4 w b) 3) ((wm4 w b) 4)))))], famW NC (fun ι => mcP G (Q ι) (mz ι))]) rfl ?_
        refine V_iinc hC dX10_burn_92 (v := 2) (L' := [(2, .int 2), (0, .ref y), (1, .int b)]) (j := 2) rfl (by decide) (by decide) rfl ?_
        refine V_goto hC dX10_burn_95 (tgt := 32) (by decide) ?_
        refine V_loc (L' := [(0, .ref y), (1, .int b), (2, .int 2)]) [1, 2, 0] rfl ?_
        rw [show (upd (wm4 w b) 3 (wmCell (v 3) ((wm4 w b) 3) ((wm4 w b) 4)) : Nat → Int32) = wm3 v w b from rfl]
        exact ch1_1
      · refine V_iconst hC dX10_burn_82 (v := 1) (by decide) ?_
        refine V_goto hC dX10_burn_83 (tgt := 87) (by decide) ?_
        refine V_isub hC dX10_burn_87 ?_
        refine V_mmax hC q1338 q694 q65 q695 (by decide) (Nat.le_of_ble_eq_true rfl) (by decide) (by decide) dX10_burn_88 ?_
        refine V_eqi (y := wmCell (v 3) ((wm4 w b) 3) ((wm4 w b) 4)) (wmC_2 (fun e => h20 ((hvb 3 (by decide)).symm.trans e)) (by rw [(hvr 3 (by decide) h20).1]; exact h21)) ?_
        refine V_iast hC dX10_burn_91 3 0 rfl rfl (vin (by decide)) (z := 3) (by decide) (ps' := [[(y, .inr (11, [.ref ce, .ref ha, .ref wa, .int fl, .int co, .int no, .int ri, .int fe, .int bl, .int (c2 + 2 * b)]))], [(ce, .inl (G.2.1 7, 5, .inr (.inr (.inr (.inr (refQ 5 Q ci))))))], [(ha, .inl (G.2.1 1, 5, .inl hs))], [(wa, .inl (G.2.1 0, 5, .inl (upd (wm4 w b) 3 (wmCell (v 3) ((wm4 w b) 3) ((wm4 w b) 4)))))], famW NC (fun ι => mcP G (Q ι) (mz ι))]) rfl ?_
        refine V_iinc hC dX10_burn_92 (v := 2) (L' := [(2, .int 2), (0, .ref y), (1, .int b)]) (j := 2) rfl (by decide) (by decide) rfl ?_
        refine V_goto hC dX10_burn_95 (tgt := 32) (by decide) ?_
        refine V_loc (L' := [(0, .ref y), (1, .int b), (2, .int 2)]) [1, 2, 0] rfl ?_
        rw [show (upd (wm4 w b) 3 (wmCell (v 3) ((wm4 w b) 3) ((wm4 w b) 4)) : Nat → Int32) = wm3 v w b from rfl]
        exact ch1_1
  refine V_loc (L' := [(0, .ref y), (1, .int b), (2, .int 3)]) [1, 2, 0] rfl ?_
  rw [show (upd w 4 (((w 4) + (3 * b)) / 2) : Nat → Int32) = wm4 w b from rfl]
  exact ch1_0
