/-! ===== what the kiln computes ===== -/
theorem Mr_sz {l : Launch} {G : VG} {y : MethodName} {cc : ByteArray} {nL : Nat} {ret : FieldType} {fr lo mc ms : Nat} {av : List Value} {pre : List va_W} {post : Nat → List va_W → Prop} (h : Mr l G y cc nL ret fr lo mc ms av pre post) : ∀ sz : Nat, Met l y (lw_ws y cc nL (some ret)) { frames := fr, cells := mc, slots := ms, locals := lo } (va_Pc av (wPre G pre sz)) (QcR G (va_A pre.flatten sz) post) mc ms (va_A pre.flatten sz) := h
def rotW {α : Type} (W : Nat → α) (o : α) : Nat → α := fun i => match i with
  | 0 => W 1
  | 1 => W 2
  | 2 => o
  | k + 3 => W (k + 3)
def rot5 {α : Type} (C : Nat → α) (O : α) : Nat → α := fun i => match i with
  | 0 => O
  | 1 => C 0
  | 2 => C 1
  | 3 => C 2
  | 4 => C 3
  | k + 5 => C (k + 5)
def refA (N : Nat) (C : Nat → Nat → Nat) : Nat → Option Nat := fun ι => if ι < N then some ((C ι) 0) else none
theorem refA_at {N : Nat} {C : Nat → Nat → Nat} {j : Nat} (h : j < N) : refA N C j = some ((C j) 0) := if_pos h
theorem rotW_fn (W : Nat → Nat → Nat) (I : Nat → Nat) : va_up (va_up (va_up (refA 3 W) 0 (some ((W 1) 0))) 1 (some ((W 2) 0))) 2 (some (I 0)) = refA 3 (rotW W I) := by
  funext i
  match i with
  | 0 => rfl
  | 1 => rfl
  | 2 => rfl
  | k + 3 => simp [va_up, refA, rotW]
theorem rot5_fn (C : Nat → Nat → Nat) (O : Nat → Nat) : va_up (va_up (va_up (va_up (va_up (refA 5 C) 4 (some ((C 3) 0))) 3 (some ((C 2) 0))) 2 (some ((C 1) 0))) 1 (some ((C 0) 0))) 0 (some (O 0)) = refA 5 (rot5 C O) := by
  funext i
  match i with
  | 0 => rfl
  | 1 => rfl
  | 2 => rfl
  | 3 => rfl
  | 4 => rfl
  | k + 5 => simp [va_up, refA, rot5]
def f3 {α : Type} (a b c : α) : Nat → α := fun i => match i with
  | 0 => a
  | 1 => b
  | _ => c
def f5 {α : Type} (a b c d e : α) : Nat → α := fun i => match i with
  | 0 => a
  | 1 => b
  | 2 => c
  | 3 => d
  | _ => e
theorem f3_fn (a b c : Nat → Nat) : va_up (va_up (va_up (fun _ => none) 0 (some (a 0))) 1 (some (b 0))) 2 (some (c 0)) = refA 3 (f3 a b c) := by
  funext i
  match i with
  | 0 => rfl
  | 1 => rfl
  | 2 => rfl
  | k + 3 => simp [va_up, refA]
theorem f5_fn (a b c d e : Nat → Nat) : va_up (va_up (va_up (va_up (va_up (fun _ => none) 0 (some (a 0))) 1 (some (b 0))) 2 (some (c 0))) 3 (some (d 0))) 4 (some (e 0)) = refA 5 (f5 a b c d e) := by
  funext i
  match i with
  | 0 => rfl
  | 1 => rfl
  | 2 => rfl
  | 3 => rfl
  | 4 => rfl
  | k + 5 => simp [va_up, refA]
def chOff (y : CV) : CV := (hv 0 (y.1 1) (y.1 2) (y.1 3) (y.1 4) (y.1 5), y.2.1, y.2.2)
def kBurns (co fl : Int32) : Int32 := if fl ≤ co then fl else 0
def kCoal (co fl : Int32) : Int32 := if fl ≤ co then co - fl else co
def kCarb (co fl ca : Int32) : Int32 := if fl ≤ co then ca + 2 * fl else ca
def kRing1 (pr me w ri : Int32) : Int32 := if pr = 0 then ri else if me < 6 then ri else if w < 8 then ri else ri + 1
def kRing2 (w r1 : Int32) : Int32 := if 5 ≤ w then r1 else if r1 ≤ 0 then r1 else 0
def kFall (w r1 fa : Int32) : Int32 := if 5 ≤ w then fa else if r1 ≤ 0 then fa else fa + 1
/-- what comes into the first cell: the spare one, or the first that waits -/
def nwO {α : Type} (n : Nat) (W : Nat → α) (o : α) : α := if n = 0 then o else W 0
def nwV (n : Nat) (x : Nat → CV) (y : CV) : CV := if n = 0 then chOff y else x 0
def nwW {α : Type} (n : Nat) (W : Nat → α) (o : α) : Nat → α := if n = 0 then W else rotW W o
def kmC (ri : Int32) (n : Nat) (C W : Nat → Nat → Nat) (O : Nat → Nat) : Nat → Nat → Nat := if ri < 6 then rot5 C (nwO n W O) else C
def kmO (ri : Int32) (C : Nat → Nat → Nat) (O : Nat → Nat) : Nat → Nat := if ri < 6 then C 4 else O
def kmV (ri : Int32) (n : Nat) (v x : Nat → CV) (y : CV) : Nat → CV := if ri < 6 then rot5 v (nwV n x y) else v
def kmY (ri : Int32) (v : Nat → CV) (y : CV) : CV := if ri < 6 then v 4 else y
def kmW {α : Type} (ri : Int32) (n : Nat) (W : Nat → α) (o : α) : Nat → α := if ri < 6 then nwW n W o else W
def kmN (ri : Int32) (n : Nat) : Nat := if ri < 6 then n - 1 else n
def kmB (ri bl : Int32) : Int32 := if ri < 6 then bl else bl + 1
def kmR (ri : Int32) (v : Nat → CV) : Int32 := if ri < 6 then (v 4).1 0 else 0
def wmCell (x : CV) (wc wn : Int32) : Int32 := mx 0 (if x.1 0 = 0 then (wc + 2 * wn) / 3 else if x.1 1 ≤ 0 then (wc + 2 * wn) / 3 else (wc + 2 * wn) / 3 + (-1))
def wm4 (w : Nat → Int32) (b : Int32) : Nat → Int32 := upd w 4 ((w 4 + 3 * b) / 2)
def wm3 (v : Nat → CV) (w : Nat → Int32) (b : Int32) : Nat → Int32 := upd (wm4 w b) 3 (wmCell (v 3) (wm4 w b 3) (wm4 w b 4))
def wm2 (v : Nat → CV) (w : Nat → Int32) (b : Int32) : Nat → Int32 := upd (wm3 v w b) 2 (wmCell (v 2) (wm3 v w b 2) (wm3 v w b 3))
def wm1 (v : Nat → CV) (w : Nat → Int32) (b : Int32) : Nat → Int32 := upd (wm2 v w b) 1 (wmCell (v 1) (wm2 v w b 1) (wm2 v w b 2))
def wm0 (v : Nat → CV) (w : Nat → Int32) (b : Int32) : Nat → Int32 := upd (wm1 v w b) 0 (wmCell (v 0) (wm1 v w b 0) (wm1 v w b 1))
def stC (w : Int32) (x : CV) : CV := if x.1 0 = 0 then x else chBurn w x
def kvF (w : Nat → Int32) (v : Nat → CV) (t : Nat) : Nat → CV := fun j => if j < t then stC (w j) (v j) else v j
def kcF (w : Nat → Int32) (v : Nat → CV) (ca : Int32) : Nat → Int32
  | 0 => ca
  | t + 1 => if (v t).1 0 = 0 then kcF w v ca t else kcF w v ca t + bnA (w t) ((v t).1 1)
theorem kvF_at {w : Nat → Int32} {v : Nat → CV} {t j : Nat} (h : t ≤ j) : kvF w v t j = v j := if_neg (by omega)
theorem kvF_0 {w : Nat → Int32} {v : Nat → CV} : kvF w v 0 = v := rfl
theorem kvF_skip {w : Nat → Int32} {v : Nat → CV} {t : Nat} (h : (v t).1 0 = 0) : kvF w v (t + 1) = kvF w v t := by
  funext j
  unfold kvF
  by_cases h1 : j < t
  · rw [if_pos h1, if_pos (by omega)]
  · by_cases h2 : j = t
    · subst h2
      rw [if_pos (by omega), if_neg h1]
      exact if_pos h
    · rw [if_neg h1, if_neg (by omega)]
theorem kvF_hit {w : Nat → Int32} {v : Nat → CV} {t : Nat} (h : ¬ (v t).1 0 = 0) : kvF w v (t + 1) t = chBurn (w t) (v t) := by
  unfold kvF
  rw [if_pos (by omega)]
  exact if_neg h
theorem kvF_out {w : Nat → Int32} {v : Nat → CV} {t j : Nat} (h : j ≠ t) : kvF w v (t + 1) j = kvF w v t j := by
  unfold kvF
  by_cases h1 : j < t
  · rw [if_pos h1, if_pos (by omega)]
  · rw [if_neg h1, if_neg (by omega)]
set_option maxHeartbeats 4000000 in
set_option maxRecDepth 100000 in
/-- ClinkerWorks$Kiln.isQueueFull -/
theorem c_X2_isQueueFull (l : Launch) (G : VG) (k ce wa wt n : Nat) (O : Nat → Nat) (fl co ri no fa bl ca : Int32) : Mi l G yX2_isQueueFull cX2_isQueueFull 1 .boolean 0 0 0 0 [.ref k] [[(k, .inr (3, [.ref ce, .ref wa, .ref wt, .int (nI n), .ref (O 0), .int fl, .int co, .int ri, .int no, .int fa, .int bl, .int ca]))]] (fun r u => r = (if nI n < 3 then 0 else 1) ∧ u = [[(k, .inr (3, [.ref ce, .ref wa, .ref wt, .int (nI n), .ref (O 0), .int fl, .int co, .int ri, .int no, .int fa, .int bl, .int ca]))]]) := by
  refine Mi_of (by decide) (Nat.le_of_ble_eq_true rfl) (fun pP eE sS mM aA bB tT cC AA QQ hC hr hnm hQ => ?_)
  refine V_aload_n hC dX2_isQueueFull_0 0 rfl ?_
  refine V_get hC dX2_isQueueFull_1 inAX2 (mem_at 0 0 rfl rfl) rfl 3 (by decide) q177 rfl (v := .int (nI n)) rfl ?_
  refine V_iconst hC dX2_isQueueFull_4 (v := 3) (by decide) ?_
  refine V_icmp_lt hC dX2_isQueueFull_5 (tgt := 12) (by decide) (fun h1 => ?_) (fun h1 => ?_)
  · refine V_iconst hC dX2_isQueueFull_12 (v := 0) (by decide) ?_
    exact V_zret hC hQ hr (by decide) [0] (u := [[(k, .inr (3, [.ref ce, .ref wa, .ref wt, .int (nI n), .ref (O 0), .int fl, .int co, .int ri, .int no, .int fa, .int bl, .int ca]))]]) (by decide) rfl (by decide) (by decide) dX2_isQueueFull_13 (⟨by first | rw [if_pos (by assumption)] | rw [if_neg (i32_nlt (by assumption))] | rw [if_neg (by assumption)], rfl⟩)
  · refine V_iconst hC dX2_isQueueFull_8 (v := 1) (by decide) ?_
    refine V_goto hC dX2_isQueueFull_9 (tgt := 13) (by decide) ?_
    exact V_zret hC hQ hr (by decide) [0] (u := [[(k, .inr (3, [.ref ce, .ref wa, .ref wt, .int (nI n), .ref (O 0), .int fl, .int co, .int ri, .int no, .int fa, .int bl, .int ca]))]]) (by decide) rfl (by decide) (by decide) dX2_isQueueFull_13 (⟨by first | rw [if_pos (by assumption)] | rw [if_neg (i32_nlt (by assumption))] | rw [if_neg (by assumption)], rfl⟩)
set_option maxHeartbeats 4000000 in
set_option maxRecDepth 100000 in
/-- ClinkerWorks$Kiln.burnCoal -/
theorem c_X2_burnCoal (l : Launch) (G : VG) (k ce wa wt n : Nat) (O : Nat → Nat) (fl co ri no fa bl ca : Int32) : Mi l G yX2_burnCoal cX2_burnCoal 1 .int 0 0 0 0 [.ref k] [[(k, .inr (3, [.ref ce, .ref wa, .ref wt, .int (nI n), .ref (O 0), .int fl, .int co, .int ri, .int no, .int fa, .int bl, .int ca]))]] (fun r u => r = kBurns co fl ∧ u = [[(k, .inr (3, [.ref ce, .ref wa, .ref wt, .int (nI n), .ref (O 0), .int fl, .int (kCoal co fl), .int ri, .int no, .int fa, .int bl, .int (kCarb co fl ca)]))]]) := by
  refine Mi_of (by decide) (Nat.le_of_ble_eq_true rfl) (fun pP eE sS mM aA bB tT cC AA QQ hC hr hnm hQ => ?_)
  refine V_aload_n hC dX2_burnCoal_0 0 rfl ?_
  refine V_get hC dX2_burnCoal_1 inAX2 (mem_at 0 0 rfl rfl) rfl 6 (by decide) q183 rfl (v := .int co) rfl ?_
  refine V_aload_n hC dX2_burnCoal_4 0 rfl ?_
  refine V_get hC dX2_burnCoal_5 inAX2 (mem_at 0 0 rfl rfl) rfl 5 (by decide) q181 rfl (v := .int fl) rfl ?_
  refine V_icmp_ge hC dX2_burnCoal_8 (tgt := 13) (by decide) (fun h1 => ?_) (fun h1 => ?_)
  · have hc : fl ≤ co := h1
    refine V_aload_n hC dX2_burnCoal_13 0 rfl ?_
    refine V_dup hC dX2_burnCoal_14 rfl ?_
    refine V_get hC dX2_burnCoal_15 inAX2 (mem_at 0 0 rfl rfl) rfl 6 (by decide) q183 rfl (v := .int co) rfl ?_
    refine V_aload_n hC dX2_burnCoal_18 0 rfl ?_
    refine V_get hC dX2_burnCoal_19 inAX2 (mem_at 0 0 rfl rfl) rfl 5 (by decide) q181 rfl (v := .int fl) rfl ?_
    refine V_isub hC dX2_burnCoal_22 ?_
    refine V_put hC dX2_burnCoal_23 inAX2 tyX2 tyX2_ok nmX2 0 0 rfl rfl rfl 6 (by decide) q183 rfl rfl (rfl) (rfl) (Nat.le_of_ble_eq_true rfl) (ps' := [[(k, .inr (3, [.ref ce, .ref wa, .ref wt, .int (nI n), .ref (O 0), .int fl, .int (co - fl), .int ri, .int no, .int fa, .int bl, .int ca]))]]) rfl ?_
    refine V_aload_n hC dX2_burnCoal_26 0 rfl ?_
    refine V_dup hC dX2_burnCoal_27 rfl ?_
    refine V_get hC dX2_burnCoal_28 inAX2 (mem_at 0 0 rfl rfl) rfl 11 (by decide) q193 rfl (v := .int ca) rfl ?_
    refine V_iconst hC dX2_burnCoal_31 (v := 2) (by decide) ?_
    refine V_aload_n hC dX2_burnCoal_32 0 rfl ?_
    refine V_get hC dX2_burnCoal_33 inAX2 (mem_at 0 0 rfl rfl) rfl 5 (by decide) q181 rfl (v := .int fl) rfl ?_
    refine V_imul hC dX2_burnCoal_36 ?_
    refine V_iadd hC dX2_burnCoal_37 ?_
    refine V_put hC dX2_burnCoal_38 inAX2 tyX2 tyX2_ok nmX2 0 0 rfl rfl rfl 11 (by decide) q193 rfl rfl (rfl) (rfl) (Nat.le_of_ble_eq_true rfl) (ps' := [[(k, .inr (3, [.ref ce, .ref wa, .ref wt, .int (nI n), .ref (O 0), .int fl, .int (co - fl), .int ri, .int no, .int fa, .int bl, .int (ca + (2 * fl))]))]]) rfl ?_
    refine V_aload_n hC dX2_burnCoal_41 0 rfl ?_
    refine V_get hC dX2_burnCoal_42 inAX2 (mem_at 0 0 rfl rfl) rfl 5 (by decide) q181 rfl (v := .int fl) rfl ?_
    exact V_iret hC hQ hr [0] (u := [[(k, .inr (3, [.ref ce, .ref wa, .ref wt, .int (nI n), .ref (O 0), .int fl, .int (co - fl), .int ri, .int no, .int fa, .int bl, .int (ca + (2 * fl))]))]]) (by decide) rfl (by decide) (by decide) dX2_burnCoal_45 (⟨by simp [kBurns, hc], by simp [kCoal, kCarb, hc]⟩)
  · have hc : ¬ fl ≤ co := h1
    refine V_iconst hC dX2_burnCoal_11 (v := 0) (by decide) ?_
    exact V_iret hC hQ hr [0] (u := [[(k, .inr (3, [.ref ce, .ref wa, .ref wt, .int (nI n), .ref (O 0), .int fl, .int co, .int ri, .int no, .int fa, .int bl, .int ca]))]]) (by decide) rfl (by decide) (by decide) dX2_burnCoal_12 (⟨by simp [kBurns, hc], by simp [kCoal, kCarb, hc]⟩)
set_option maxHeartbeats 4000000 in
set_option maxRecDepth 100000 in
/-- ClinkerWorks$Kiln.nextWaiting -/
theorem c_X2_nextWaiting (l : Launch) (G : VG) (k ce wa wt n : Nat) (O : Nat → Nat) (fl co ri no fa bl ca : Int32) (W : Nat → Nat → Nat) (x : Nat → CV) (I : Nat → Nat) (z : CV) (hn : n ≤ 3) : Mr l G yX2_nextWaiting cX2_nextWaiting 4 (.object "ClinkerWorks$Charge") 0 0 0 0 [.ref k, .ref (I 0)] [[(k, .inr (3, [.ref ce, .ref wa, .ref wt, .int (nI n), .ref (O 0), .int fl, .int co, .int ri, .int no, .int fa, .int bl, .int ca]))], [(wt, .inl (G.2.1 4, 3, .inr (.inr (.inr (.inr (refA 3 W))))))], famW 3 (fun ι => chP G (W ι) (x ι)), chP G I z] (fun r u => r = (nwO n W I) 0 ∧ u = [[(k, .inr (3, [.ref ce, .ref wa, .ref wt, .int (nI (n - 1)), .ref (O 0), .int fl, .int co, .int ri, .int no, .int fa, .int bl, .int ca]))], [(wt, .inl (G.2.1 4, 3, .inr (.inr (.inr (.inr (refA 3 (nwW n W I)))))))], famW 3 (fun ι => chP G ((nwW n W I) ι) ((nwW n x z) ι)), chP G (nwO n W I) (nwV n x z)]) := by
  refine Mr_of (by decide) (Nat.le_of_ble_eq_true rfl) (fun pP eE sS mM aA bB tT cC AA QQ hC hr hnm hQ => ?_)
  refine V_aload_n hC dX2_nextWaiting_0 0 rfl ?_
  refine V_get hC dX2_nextWaiting_1 inAX2 (mem_at 0 0 rfl rfl) rfl 3 (by decide) q177 rfl (v := .int (nI n)) rfl ?_
  refine V_if_ne hC dX2_nextWaiting_4 (tgt := 14) (by decide) (fun h1 => ?_) (fun h1 => ?_)
  · obtain ⟨n, rfl⟩ : ∃ n1, n = n1 + 1 := ⟨n - 1, by have : ¬ n = 0 := (by rintro rfl; exact absurd (by decide) h1); omega⟩
    refine V_sub [2, 0, 1, 3] (by decide) (u := [famW 3 (fun ι => chP G (W ι) (x ι)), [(k, .inr (3, [.ref ce, .ref wa, .ref wt, .int (nI (n + 1)), .ref (O 0), .int fl, .int co, .int ri, .int no, .int fa, .int bl, .int ca]))], [(wt, .inl (G.2.1 4, 3, .inr (.inr (.inr (.inr (refA 3 W))))))], chP G I z]) rfl ?_
    refine V_expand ?_
    refine V_aload_n hC dX2_nextWaiting_14 0 rfl ?_
    refine V_get hC dX2_nextWaiting_15 inAX2 (mem_at 3 0 rfl rfl) rfl 2 (by decide) q175 rfl (v := .ref wt) rfl ?_
    refine V_iconst hC dX2_nextWaiting_18 (v := 0) (by decide) ?_
    refine V_aald hC dX2_nextWaiting_19 4 rfl (mem_at 4 0 rfl rfl) (vin (by decide)) (x := 0) (by decide) (b := (W 0) 0) (rfl) ?_
    refine V_astore_n hC dX2_nextWaiting_20 (L' := [(2, .ref ((W 0) 0)), (0, .ref k), (1, .ref (I 0))]) (by decide) rfl ?_
    refine V_iconst hC dX2_nextWaiting_21 (v := 1) (by decide) ?_
    refine V_istore_n hC dX2_nextWaiting_22 (L' := [(3, .int 1), (2, .ref ((W 0) 0)), (0, .ref k), (1, .ref (I 0))]) (by decide) rfl ?_
    refine V_iload_n hC dX2_nextWaiting_23 0 rfl ?_
    refine V_iconst hC dX2_nextWaiting_24 (v := 3) (by decide) ?_
    refine V_icmp_geF hC dX2_nextWaiting_25 (tgt := 48) (by decide) (by decide) ?_
    refine V_aload_n hC dX2_nextWaiting_28 2 rfl ?_
    refine V_get hC dX2_nextWaiting_29 inAX2 (mem_at 3 0 rfl rfl) rfl 2 (by decide) q175 rfl (v := .ref wt) rfl ?_
    refine V_iload_n hC dX2_nextWaiting_32 0 rfl ?_
    refine V_iconst hC dX2_nextWaiting_33 (v := 1) (by decide) ?_
    refine V_isub hC dX2_nextWaiting_34 ?_
    refine V_eqi (y := 0) (by decide) ?_
    refine V_aload_n hC dX2_nextWaiting_35 2 rfl ?_
    refine V_get hC dX2_nextWaiting_36 inAX2 (mem_at 3 0 rfl rfl) rfl 2 (by decide) q175 rfl (v := .ref wt) rfl ?_
    refine V_iload_n hC dX2_nextWaiting_39 0 rfl ?_
    refine V_aald hC dX2_nextWaiting_40 4 rfl (mem_at 4 0 rfl rfl) (vin (by decide)) (x := 1) (by decide) (b := (W 1) 0) (rfl) ?_
    refine V_aast hC dX2_nextWaiting_41 4 4 0 2 rfl rfl rfl rfl (mem_at 1 0 rfl rfl) (vin (by decide)) (z := 0) (by decide) (ps' := [chP G (W 0) (x 0), chP G (W 1) (x 1), chP G (W 2) (x 2), [(k, .inr (3, [.ref ce, .ref wa, .ref wt, .int (nI (n + 1)), .ref (O 0), .int fl, .int co, .int ri, .int no, .int fa, .int bl, .int ca]))], [(wt, .inl (G.2.1 4, 3, .inr (.inr (.inr (.inr (va_up (refA 3 W) 0 (some ((W 1) 0))))))))], chP G I z]) rfl ?_
    refine V_iinc hC dX2_nextWaiting_42 (v := 2) (L' := [(3, .int 2), (2, .ref ((W 0) 0)), (0, .ref k), (1, .ref (I 0))]) (j := 0) rfl (by decide) (by decide) rfl ?_
    refine V_goto hC dX2_nextWaiting_45 (tgt := 23) (by decide) ?_
    refine V_iload_n hC dX2_nextWaiting_23 0 rfl ?_
    refine V_iconst hC dX2_nextWaiting_24 (v := 3) (by decide) ?_
    refine V_icmp_geF hC dX2_nextWaiting_25 (tgt := 48) (by decide) (by decide) ?_
    refine V_aload_n hC dX2_nextWaiting_28 2 rfl ?_
    refine V_get hC dX2_nextWaiting_29 inAX2 (mem_at 3 0 rfl rfl) rfl 2 (by decide) q175 rfl (v := .ref wt) rfl ?_
    refine V_iload_n hC dX2_nextWaiting_32 0 rfl ?_
    refine V_iconst hC dX2_nextWaiting_33 (v := 1) (by decide) ?_
    refine V_isub hC dX2_nextWaiting_34 ?_
    refine V_eqi (y := 1) (by decide) ?_
    refine V_aload_n hC dX2_nextWaiting_35 2 rfl ?_
    refine V_get hC dX2_nextWaiting_36 inAX2 (mem_at 3 0 rfl rfl) rfl 2 (by decide) q175 rfl (v := .ref wt) rfl ?_
    refine V_iload_n hC dX2_nextWaiting_39 0 rfl ?_
    refine V_aald hC dX2_nextWaiting_40 4 rfl (mem_at 4 0 rfl rfl) (vin (by decide)) (x := 2) (by decide) (b := (W 2) 0) (rfl) ?_
    refine V_aast hC dX2_nextWaiting_41 4 4 0 2 rfl rfl rfl rfl (mem_at 2 0 rfl rfl) (vin (by decide)) (z := 1) (by decide) (ps' := [chP G (W 0) (x 0), chP G (W 1) (x 1), chP G (W 2) (x 2), [(k, .inr (3, [.ref ce, .ref wa, .ref wt, .int (nI (n + 1)), .ref (O 0), .int fl, .int co, .int ri, .int no, .int fa, .int bl, .int ca]))], [(wt, .inl (G.2.1 4, 3, .inr (.inr (.inr (.inr (va_up (va_up (refA 3 W) 0 (some ((W 1) 0))) 1 (some ((W 2) 0))))))))], chP G I z]) rfl ?_
    refine V_iinc hC dX2_nextWaiting_42 (v := 3) (L' := [(3, .int 3), (2, .ref ((W 0) 0)), (0, .ref k), (1, .ref (I 0))]) (j := 0) rfl (by decide) (by decide) rfl ?_
    refine V_goto hC dX2_nextWaiting_45 (tgt := 23) (by decide) ?_
    refine V_iload_n hC dX2_nextWaiting_23 0 rfl ?_
    refine V_iconst hC dX2_nextWaiting_24 (v := 3) (by decide) ?_
    refine V_icmp_geT hC dX2_nextWaiting_25 (tgt := 48) (by decide) (by decide) ?_
    refine V_aload_n hC dX2_nextWaiting_48 2 rfl ?_
    refine V_get hC dX2_nextWaiting_49 inAX2 (mem_at 3 0 rfl rfl) rfl 2 (by decide) q175 rfl (v := .ref wt) rfl ?_
    refine V_iconst hC dX2_nextWaiting_52 (v := 2) (by decide) ?_
    refine V_aload_n hC dX2_nextWaiting_53 3 rfl ?_
    refine V_aast hC dX2_nextWaiting_54 4 4 0 2 rfl rfl rfl rfl (mem_at 5 0 rfl rfl) (vin (by decide)) (z := 2) (by decide) (ps' := [chP G (W 0) (x 0), chP G (W 1) (x 1), chP G (W 2) (x 2), [(k, .inr (3, [.ref ce, .ref wa, .ref wt, .int (nI (n + 1)), .ref (O 0), .int fl, .int co, .int ri, .int no, .int fa, .int bl, .int ca]))], [(wt, .inl (G.2.1 4, 3, .inr (.inr (.inr (.inr (va_up (va_up (va_up (refA 3 W) 0 (some ((W 1) 0))) 1 (some ((W 2) 0))) 2 (some (I 0))))))))], chP G I z]) rfl ?_
    refine V_aload_n hC dX2_nextWaiting_55 2 rfl ?_
    refine V_dup hC dX2_nextWaiting_56 rfl ?_
    refine V_get hC dX2_nextWaiting_57 inAX2 (mem_at 3 0 rfl rfl) rfl 3 (by decide) q177 rfl (v := .int (nI (n + 1))) rfl ?_
    refine V_iconst hC dX2_nextWaiting_60 (v := 1) (by decide) ?_
    refine V_isub hC dX2_nextWaiting_61 ?_
    refine V_eqi (y := nI n) (nI_pred n) ?_
    refine V_put hC dX2_nextWaiting_62 inAX2 tyX2 tyX2_ok nmX2 3 0 rfl rfl rfl 3 (by decide) q177 rfl rfl (rfl) (rfl) (Nat.le_of_ble_eq_true rfl) (ps' := [chP G (W 0) (x 0), chP G (W 1) (x 1), chP G (W 2) (x 2), [(k, .inr (3, [.ref ce, .ref wa, .ref wt, .int (nI n), .ref (O 0), .int fl, .int co, .int ri, .int no, .int fa, .int bl, .int ca]))], [(wt, .inl (G.2.1 4, 3, .inr (.inr (.inr (.inr (va_up (va_up (va_up (refA 3 W) 0 (some ((W 1) 0))) 1 (some ((W 2) 0))) 2 (some (I 0))))))))], chP G I z]) rfl ?_
    refine V_aload_n hC dX2_nextWaiting_65 1 rfl ?_
    refine V_sub [1, 2, 5, 0, 3, 4] (by decide) (u := [chP G (W 1) (x 1), chP G (W 2) (x 2), chP G I z, chP G (W 0) (x 0), [(k, .inr (3, [.ref ce, .ref wa, .ref wt, .int (nI n), .ref (O 0), .int fl, .int co, .int ri, .int no, .int fa, .int bl, .int ca]))], [(wt, .inl (G.2.1 4, 3, .inr (.inr (.inr (.inr (va_up (va_up (va_up (refA 3 W) 0 (some ((W 1) 0))) 1 (some ((W 2) 0))) 2 (some (I 0))))))))]]) rfl ?_
    refine V_psEq (ps' := (List.range 3).map (fun ι => chP G ((rotW W I) ι) ((rotW x z) ι)) ++ [chP G (W 0) (x 0), [(k, .inr (3, [.ref ce, .ref wa, .ref wt, .int (nI n), .ref (O 0), .int fl, .int co, .int ri, .int no, .int fa, .int bl, .int ca]))], [(wt, .inl (G.2.1 4, 3, .inr (.inr (.inr (.inr (va_up (va_up (va_up (refA 3 W) 0 (some ((W 1) 0))) 1 (some ((W 2) 0))) 2 (some (I 0))))))))]]) rfl ?_
    refine V_fold ?_
    exact V_aret hC hQ hr (Or.inl ⟨_, rfl⟩) [2, 3, 0, 1] (u := [[(k, .inr (3, [.ref ce, .ref wa, .ref wt, .int (nI n), .ref (O 0), .int fl, .int co, .int ri, .int no, .int fa, .int bl, .int ca]))], [(wt, .inl (G.2.1 4, 3, .inr (.inr (.inr (.inr (va_up (va_up (va_up (refA 3 W) 0 (some ((W 1) 0))) 1 (some ((W 2) 0))) 2 (some (I 0))))))))], famW 3 (fun ι => chP G ((rotW W I) ι) ((rotW x z) ι)), chP G (W 0) (x 0)]) (by decide) rfl (by decide) (by decide) dX2_nextWaiting_66 (⟨by simp [nwO], by rw [rotW_fn]; simp [nwO, nwV, nwW]⟩)
  · have hn0 : n = 0 := by have h9 : nI n = 0 := (by first | exact h1 | exact Decidable.not_not.mp h1); have := nle (a := n) (b := 0) (by rw [h9]; decide); omega
    subst hn0
    refine V_aload_n hC dX2_nextWaiting_7 1 rfl ?_
    refine V_iconst hC dX2_nextWaiting_8 (v := 0) (by decide) ?_
    refine V_put hC dX2_nextWaiting_9 inAX1 tyX1 tyX1_ok nmX1 3 0 rfl rfl rfl 0 (by decide) q133 rfl rfl (rfl) (rfl) (Nat.le_of_ble_eq_true rfl) (ps' := [[(k, .inr (3, [.ref ce, .ref wa, .ref wt, .int (nI 0), .ref (O 0), .int fl, .int co, .int ri, .int no, .int fa, .int bl, .int ca]))], [(wt, .inl (G.2.1 4, 3, .inr (.inr (.inr (.inr (refA 3 W))))))], famW 3 (fun ι => chP G (W ι) (x ι)), chP G I (hv 0 (z.1 1) (z.1 2) (z.1 3) (z.1 4) (z.1 5), z.2.1, z.2.2)]) rfl ?_
    refine V_aload_n hC dX2_nextWaiting_12 1 rfl ?_
    exact V_aret hC hQ hr (Or.inl ⟨_, rfl⟩) [0, 1, 2, 3] (u := [[(k, .inr (3, [.ref ce, .ref wa, .ref wt, .int (nI 0), .ref (O 0), .int fl, .int co, .int ri, .int no, .int fa, .int bl, .int ca]))], [(wt, .inl (G.2.1 4, 3, .inr (.inr (.inr (.inr (refA 3 W))))))], famW 3 (fun ι => chP G (W ι) (x ι)), chP G I (hv 0 (z.1 1) (z.1 2) (z.1 3) (z.1 4) (z.1 5), z.2.1, z.2.2)]) (by decide) rfl (by decide) (by decide) dX2_nextWaiting_13 (⟨rfl, rfl⟩)
set_option maxHeartbeats 4000000 in
set_option maxRecDepth 100000 in
/-- ClinkerWorks$Kiln.moveOn -/
theorem c_X2_moveOn (l : Launch) (G : VG) (k ce wa wt n : Nat) (O : Nat → Nat) (fl co ri no fa bl ca : Int32) (C : Nat → Nat → Nat) (v : Nat → CV) (W : Nat → Nat → Nat) (x : Nat → CV) (y : CV) (hn : n ≤ 3) (hx : ∀ j, j < 3 → (x j).1 0 = 0 ∨ (x j).1 0 = 1) (hvb : ∀ j, j < 5 → (v j).1 0 = 0 ∨ (v j).1 0 = 1) : Mi l G yX2_moveOn cX2_moveOn 3 .boolean 1 23 0 0 [.ref k] [[(k, .inr (3, [.ref ce, .ref wa, .ref wt, .int (nI n), .ref (O 0), .int fl, .int co, .int ri, .int no, .int fa, .int bl, .int ca]))], [(ce, .inl (G.2.1 4, 5, .inr (.inr (.inr (.inr (refA 5 C))))))], [(wt, .inl (G.2.1 4, 3, .inr (.inr (.inr (.inr (refA 3 W))))))], famW 5 (fun ι => chP G (C ι) (v ι)), famW 3 (fun ι => chP G (W ι) (x ι)), chP G O y] (fun r u => r = kmR ri v ∧ u = [[(k, .inr (3, [.ref ce, .ref wa, .ref wt, .int (nI (kmN ri n)), .ref ((kmO ri C O) 0), .int fl, .int co, .int ri, .int no, .int fa, .int (kmB ri bl), .int ca]))], [(ce, .inl (G.2.1 4, 5, .inr (.inr (.inr (.inr (refA 5 (kmC ri n C W O)))))))], [(wt, .inl (G.2.1 4, 3, .inr (.inr (.inr (.inr (refA 3 (kmW ri n W O)))))))], famW 5 (fun ι => chP G ((kmC ri n C W O) ι) ((kmV ri n v x y) ι)), famW 3 (fun ι => chP G ((kmW ri n W O) ι) ((kmW ri n x y) ι)), chP G (kmO ri C O) (kmY ri v y)]) := by
  refine Mi_of (by decide) (Nat.le_of_ble_eq_true rfl) (fun pP eE sS mM aA bB tT cC AA QQ hC hr hnm hQ => ?_)
  refine V_aload_n hC dX2_moveOn_0 0 rfl ?_
  refine V_get hC dX2_moveOn_1 inAX2 (mem_at 0 0 rfl rfl) rfl 7 (by decide) q185 rfl (v := .int ri) rfl ?_
  refine V_bipush hC dX2_moveOn_4 (v := 6) (by decide) ?_
  refine V_icmp_lt hC dX2_moveOn_6 (tgt := 21) (by decide) (fun h1 => ?_) (fun h1 => ?_)
  · have hr6 : ri < 6 := h1
    refine V_aload_n hC dX2_moveOn_21 0 rfl ?_
    refine V_get hC dX2_moveOn_22 inAX2 (mem_at 0 0 rfl rfl) rfl 4 (by decide) q179 rfl (v := .ref (O 0)) rfl ?_
    refine V_sub [3, 0, 1, 2, 4, 5] (by decide) (u := [famW 5 (fun ι => chP G (C ι) (v ι)), [(k, .inr (3, [.ref ce, .ref wa, .ref wt, .int (nI n), .ref (O 0), .int fl, .int co, .int ri, .int no, .int fa, .int bl, .int ca]))], [(ce, .inl (G.2.1 4, 5, .inr (.inr (.inr (.inr (refA 5 C))))))], [(wt, .inl (G.2.1 4, 3, .inr (.inr (.inr (.inr (refA 3 W))))))], famW 3 (fun ι => chP G (W ι) (x ι)), chP G O y]) rfl ?_
    refine V_expand ?_
    refine V_astore_n hC dX2_moveOn_25 (L' := [(1, .ref (O 0)), (0, .ref k)]) (by decide) rfl ?_
    refine V_aload_n hC dX2_moveOn_26 1 rfl ?_
    refine V_aload_n hC dX2_moveOn_27 1 rfl ?_
    refine V_get hC dX2_moveOn_28 inAX2 (mem_at 5 0 rfl rfl) rfl 0 (by decide) q171 rfl (v := .ref ce) rfl ?_
    refine V_iconst hC dX2_moveOn_31 (v := 4) (by decide) ?_
    refine V_aald hC dX2_moveOn_32 4 rfl (mem_at 6 0 rfl rfl) (vin (by decide)) (x := 4) (by decide) (b := (C 4) 0) (rfl) ?_
    refine V_put hC dX2_moveOn_33 inAX2 tyX2 tyX2_ok nmX2 5 0 rfl rfl rfl 4 (by decide) q179 rfl rfl (rfl) (rfl) (Nat.le_of_ble_eq_true rfl) (ps' := [chP G (C 0) (v 0), chP G (C 1) (v 1), chP G (C 2) (v 2), chP G (C 3) (v 3), chP G (C 4) (v 4), [(k, .inr (3, [.ref ce, .ref wa, .ref wt, .int (nI n), .ref ((C 4) 0), .int fl, .int co, .int ri, .int no, .int fa, .int bl, .int ca]))], [(ce, .inl (G.2.1 4, 5, .inr (.inr (.inr (.inr (refA 5 C))))))], [(wt, .inl (G.2.1 4, 3, .inr (.inr (.inr (.inr (refA 3 W))))))], famW 3 (fun ι => chP G (W ι) (x ι)), chP G O y]) rfl ?_
    refine V_iconst hC dX2_moveOn_36 (v := 4) (by decide) ?_
    refine V_istore_n hC dX2_moveOn_37 (L' := [(2, .int 4), (1, .ref (O 0)), (0, .ref k)]) (by decide) rfl ?_
    refine V_iload_n hC dX2_moveOn_38 0 rfl ?_
    refine V_if_leF hC dX2_moveOn_39 (tgt := 62) (by decide) (by decide) ?_
    refine V_aload_n hC dX2_moveOn_42 2 rfl ?_
    refine V_get hC dX2_moveOn_43 inAX2 (mem_at 5 0 rfl rfl) rfl 0 (by decide) q171 rfl (v := .ref ce) rfl ?_
    refine V_iload_n hC dX2_moveOn_46 0 rfl ?_
    refine V_aload_n hC dX2_moveOn_47 2 rfl ?_
    refine V_get hC dX2_moveOn_48 inAX2 (mem_at 5 0 rfl rfl) rfl 0 (by decide) q171 rfl (v := .ref ce) rfl ?_
    refine V_iload_n hC dX2_moveOn_51 0 rfl ?_
    refine V_iconst hC dX2_moveOn_52 (v := 1) (by decide) ?_
    refine V_isub hC dX2_moveOn_53 ?_
    refine V_eqi (y := 3) (by decide) ?_
    refine V_aald hC dX2_moveOn_54 4 rfl (mem_at 6 0 rfl rfl) (vin (by decide)) (x := 3) (by decide) (b := (C 3) 0) (rfl) ?_
    refine V_aast hC dX2_moveOn_55 6 4 0 2 rfl rfl rfl rfl (mem_at 3 0 rfl rfl) (vin (by decide)) (z := 4) (by decide) (ps' := [chP G (C 0) (v 0), chP G (C 1) (v 1), chP G (C 2) (v 2), chP G (C 3) (v 3), chP G (C 4) (v 4), [(k, .inr (3, [.ref ce, .ref wa, .ref wt, .int (nI n), .ref ((C 4) 0), .int fl, .int co, .int ri, .int no, .int fa, .int bl, .int ca]))], [(ce, .inl (G.2.1 4, 5, .inr (.inr (.inr (.inr (va_up (refA 5 C) 4 (some ((C 3) 0))))))))], [(wt, .inl (G.2.1 4, 3, .inr (.inr (.inr (.inr (refA 3 W))))))], famW 3 (fun ι => chP G (W ι) (x ι)), chP G O y]) rfl ?_
    refine V_iinc hC dX2_moveOn_56 (v := 3) (L' := [(2, .int 3), (1, .ref (O 0)), (0, .ref k)]) (j := 0) rfl (by decide) (by decide) rfl ?_
    refine V_goto hC dX2_moveOn_59 (tgt := 38) (by decide) ?_
    refine V_iload_n hC dX2_moveOn_38 0 rfl ?_
    refine V_if_leF hC dX2_moveOn_39 (tgt := 62) (by decide) (by decide) ?_
    refine V_aload_n hC dX2_moveOn_42 2 rfl ?_
    refine V_get hC dX2_moveOn_43 inAX2 (mem_at 5 0 rfl rfl) rfl 0 (by decide) q171 rfl (v := .ref ce) rfl ?_
    refine V_iload_n hC dX2_moveOn_46 0 rfl ?_
    refine V_aload_n hC dX2_moveOn_47 2 rfl ?_
    refine V_get hC dX2_moveOn_48 inAX2 (mem_at 5 0 rfl rfl) rfl 0 (by decide) q171 rfl (v := .ref ce) rfl ?_
    refine V_iload_n hC dX2_moveOn_51 0 rfl ?_
    refine V_iconst hC dX2_moveOn_52 (v := 1) (by decide) ?_
    refine V_isub hC dX2_moveOn_53 ?_
    refine V_eqi (y := 2) (by decide) ?_
    refine V_aald hC dX2_moveOn_54 4 rfl (mem_at 6 0 rfl rfl) (vin (by decide)) (x := 2) (by decide) (b := (C 2) 0) (rfl) ?_
    refine V_aast hC dX2_moveOn_55 6 4 0 2 rfl rfl rfl rfl (mem_at 2 0 rfl rfl) (vin (by decide)) (z := 3) (by decide) (ps' := [chP G (C 0) (v 0), chP G (C 1) (v 1), chP G (C 2) (v 2), chP G (C 3) (v 3), chP G (C 4) (v 4), [(k, .inr (3, [.ref ce, .ref wa, .ref wt, .int (nI n), .ref ((C 4) 0), .int fl, .int co, .int ri, .int no, .int fa, .int bl, .int ca]))], [(ce, .inl (G.2.1 4, 5, .inr (.inr (.inr (.inr (va_up (va_up (refA 5 C) 4 (some ((C 3) 0))) 3 (some ((C 2) 0))))))))], [(wt, .inl (G.2.1 4, 3, .inr (.inr (.inr (.inr (refA 3 W))))))], famW 3 (fun ι => chP G (W ι) (x ι)), chP G O y]) rfl ?_
    refine V_iinc hC dX2_moveOn_56 (v := 2) (L' := [(2, .int 2), (1, .ref (O 0)), (0, .ref k)]) (j := 0) rfl (by decide) (by decide) rfl ?_
    refine V_goto hC dX2_moveOn_59 (tgt := 38) (by decide) ?_
    refine V_iload_n hC dX2_moveOn_38 0 rfl ?_
    refine V_if_leF hC dX2_moveOn_39 (tgt := 62) (by decide) (by decide) ?_
    refine V_aload_n hC dX2_moveOn_42 2 rfl ?_
    refine V_get hC dX2_moveOn_43 inAX2 (mem_at 5 0 rfl rfl) rfl 0 (by decide) q171 rfl (v := .ref ce) rfl ?_
    refine V_iload_n hC dX2_moveOn_46 0 rfl ?_
    refine V_aload_n hC dX2_moveOn_47 2 rfl ?_
    refine V_get hC dX2_moveOn_48 inAX2 (mem_at 5 0 rfl rfl) rfl 0 (by decide) q171 rfl (v := .ref ce) rfl ?_
    refine V_iload_n hC dX2_moveOn_51 0 rfl ?_
    refine V_iconst hC dX2_moveOn_52 (v := 1) (by decide) ?_
    refine V_isub hC dX2_moveOn_53 ?_
    refine V_eqi (y := 1) (by decide) ?_
    refine V_aald hC dX2_moveOn_54 4 rfl (mem_at 6 0 rfl rfl) (vin (by decide)) (x := 1) (by decide) (b := (C 1) 0) (rfl) ?_
    refine V_aast hC dX2_moveOn_55 6 4 0 2 rfl rfl rfl rfl (mem_at 1 0 rfl rfl) (vin (by decide)) (z := 2) (by decide) (ps' := [chP G (C 0) (v 0), chP G (C 1) (v 1), chP G (C 2) (v 2), chP G (C 3) (v 3), chP G (C 4) (v 4), [(k, .inr (3, [.ref ce, .ref wa, .ref wt, .int (nI n), .ref ((C 4) 0), .int fl, .int co, .int ri, .int no, .int fa, .int bl, .int ca]))], [(ce, .inl (G.2.1 4, 5, .inr (.inr (.inr (.inr (va_up (va_up (va_up (refA 5 C) 4 (some ((C 3) 0))) 3 (some ((C 2) 0))) 2 (some ((C 1) 0))))))))], [(wt, .inl (G.2.1 4, 3, .inr (.inr (.inr (.inr (refA 3 W))))))], famW 3 (fun ι => chP G (W ι) (x ι)), chP G O y]) rfl ?_
    refine V_iinc hC dX2_moveOn_56 (v := 1) (L' := [(2, .int 1), (1, .ref (O 0)), (0, .ref k)]) (j := 0) rfl (by decide) (by decide) rfl ?_
    refine V_goto hC dX2_moveOn_59 (tgt := 38) (by decide) ?_
    refine V_iload_n hC dX2_moveOn_38 0 rfl ?_
    refine V_if_leF hC dX2_moveOn_39 (tgt := 62) (by decide) (by decide) ?_
    refine V_aload_n hC dX2_moveOn_42 2 rfl ?_
    refine V_get hC dX2_moveOn_43 inAX2 (mem_at 5 0 rfl rfl) rfl 0 (by decide) q171 rfl (v := .ref ce) rfl ?_
    refine V_iload_n hC dX2_moveOn_46 0 rfl ?_
    refine V_aload_n hC dX2_moveOn_47 2 rfl ?_
    refine V_get hC dX2_moveOn_48 inAX2 (mem_at 5 0 rfl rfl) rfl 0 (by decide) q171 rfl (v := .ref ce) rfl ?_
    refine V_iload_n hC dX2_moveOn_51 0 rfl ?_
    refine V_iconst hC dX2_moveOn_52 (v := 1) (by decide) ?_
    refine V_isub hC dX2_moveOn_53 ?_
    refine V_eqi (y := 0) (by decide) ?_
    refine V_aald hC dX2_moveOn_54 4 rfl (mem_at 6 0 rfl rfl) (vin (by decide)) (x := 0) (by decide) (b := (C 0) 0) (rfl) ?_
    refine V_aast hC dX2_moveOn_55 6 4 0 2 rfl rfl rfl rfl (mem_at 0 0 rfl rfl) (vin (by decide)) (z := 1) (by decide) (ps' := [chP G (C 0) (v 0), chP G (C 1) (v 1), chP G (C 2) (v 2), chP G (C 3) (v 3), chP G (C 4) (v 4), [(k, .inr (3, [.ref ce, .ref wa, .ref wt, .int (nI n), .ref ((C 4) 0), .int fl, .int co, .int ri, .int no, .int fa, .int bl, .int ca]))], [(ce, .inl (G.2.1 4, 5, .inr (.inr (.inr (.inr (va_up (va_up (va_up (va_up (refA 5 C) 4 (some ((C 3) 0))) 3 (some ((C 2) 0))) 2 (some ((C 1) 0))) 1 (some ((C 0) 0))))))))], [(wt, .inl (G.2.1 4, 3, .inr (.inr (.inr (.inr (refA 3 W))))))], famW 3 (fun ι => chP G (W ι) (x ι)), chP G O y]) rfl ?_
    refine V_iinc hC dX2_moveOn_56 (v := 0) (L' := [(2, .int 0), (1, .ref (O 0)), (0, .ref k)]) (j := 0) rfl (by decide) (by decide) rfl ?_
    refine V_goto hC dX2_moveOn_59 (tgt := 38) (by decide) ?_
    refine V_iload_n hC dX2_moveOn_38 0 rfl ?_
    refine V_if_leT hC dX2_moveOn_39 (tgt := 62) (by decide) (by decide) ?_
    refine V_aload_n hC dX2_moveOn_62 2 rfl ?_
    refine V_get hC dX2_moveOn_63 inAX2 (mem_at 5 0 rfl rfl) rfl 0 (by decide) q171 rfl (v := .ref ce) rfl ?_
    refine V_iconst hC dX2_moveOn_66 (v := 0) (by decide) ?_
    refine V_aload_n hC dX2_moveOn_67 2 rfl ?_
    refine V_aload_n hC dX2_moveOn_68 1 rfl ?_
    refine V_callr hC (V_runV hC (rest := [.int 0, .ref ce]) [.ref (O 0)] (Mr_sz (c_X2_nextWaiting l G k ce wa wt n (C 4) fl co ri no fa bl ca W x O y hn)) [5, 7, 8, 9] rfl (by decide) q685 q687 q13 q46 q688 ⟨by decide, by decide, rfl⟩ ⟨by decide, by decide⟩ (ci := 3) rfl (mem_at 5 0 rfl rfl) rfl (Nat.le_of_ble_eq_true rfl) ⟨by decide, by decide⟩ dX2_moveOn_69) (is := [5, 7, 8, 9]) rfl [0, 1, 2, 3, 4, 6] (rs := [chP G (C 0) (v 0), chP G (C 1) (v 1), chP G (C 2) (v 2), chP G (C 3) (v 3), chP G (C 4) (v 4), [(ce, .inl (G.2.1 4, 5, .inr (.inr (.inr (.inr (va_up (va_up (va_up (va_up (refA 5 C) 4 (some ((C 3) 0))) 3 (some ((C 2) 0))) 2 (some ((C 1) 0))) 1 (some ((C 0) 0))))))))]]) rfl (by decide) (by decide) ?_
    rintro _ _ ⟨rfl, rfl⟩
    refine V_aast hC dX2_moveOn_72 9 4 0 2 rfl rfl rfl rfl (mem_at 3 0 rfl rfl) (vin (by decide)) (z := 0) (by decide) (ps' := [[(k, .inr (3, [.ref ce, .ref wa, .ref wt, .int (nI (n - 1)), .ref ((C 4) 0), .int fl, .int co, .int ri, .int no, .int fa, .int bl, .int ca]))], [(wt, .inl (G.2.1 4, 3, .inr (.inr (.inr (.inr (refA 3 (nwW n W O)))))))], famW 3 (fun ι => chP G ((nwW n W O) ι) ((nwW n x y) ι)), chP G (nwO n W O) (nwV n x y), chP G (C 0) (v 0), chP G (C 1) (v 1), chP G (C 2) (v 2), chP G (C 3) (v 3), chP G (C 4) (v 4), [(ce, .inl (G.2.1 4, 5, .inr (.inr (.inr (.inr (va_up (va_up (va_up (va_up (va_up (refA 5 C) 4 (some ((C 3) 0))) 3 (some ((C 2) 0))) 2 (some ((C 1) 0))) 1 (some ((C 0) 0))) 0 (some ((nwO n W O) 0))))))))]]) rfl ?_
    refine V_sub [3, 4, 5, 6, 7, 0, 1, 2, 8, 9] (by decide) (u := [chP G (nwO n W O) (nwV n x y), chP G (C 0) (v 0), chP G (C 1) (v 1), chP G (C 2) (v 2), chP G (C 3) (v 3), [(k, .inr (3, [.ref ce, .ref wa, .ref wt, .int (nI (n - 1)), .ref ((C 4) 0), .int fl, .int co, .int ri, .int no, .int fa, .int bl, .int ca]))], [(wt, .inl (G.2.1 4, 3, .inr (.inr (.inr (.inr (refA 3 (nwW n W O)))))))], famW 3 (fun ι => chP G ((nwW n W O) ι) ((nwW n x y) ι)), chP G (C 4) (v 4), [(ce, .inl (G.2.1 4, 5, .inr (.inr (.inr (.inr (va_up (va_up (va_up (va_up (va_up (refA 5 C) 4 (some ((C 3) 0))) 3 (some ((C 2) 0))) 2 (some ((C 1) 0))) 1 (some ((C 0) 0))) 0 (some ((nwO n W O) 0))))))))]]) rfl ?_
    refine V_psEq (ps' := (List.range 5).map (fun ι => chP G ((rot5 C (nwO n W O)) ι) ((rot5 v (nwV n x y)) ι)) ++ [[(k, .inr (3, [.ref ce, .ref wa, .ref wt, .int (nI (n - 1)), .ref ((C 4) 0), .int fl, .int co, .int ri, .int no, .int fa, .int bl, .int ca]))], [(wt, .inl (G.2.1 4, 3, .inr (.inr (.inr (.inr (refA 3 (nwW n W O)))))))], famW 3 (fun ι => chP G ((nwW n W O) ι) ((nwW n x y) ι)), chP G (C 4) (v 4), [(ce, .inl (G.2.1 4, 5, .inr (.inr (.inr (.inr (va_up (va_up (va_up (va_up (va_up (refA 5 C) 4 (some ((C 3) 0))) 3 (some ((C 2) 0))) 2 (some ((C 1) 0))) 1 (some ((C 0) 0))) 0 (some ((nwO n W O) 0))))))))]]) rfl ?_
    refine V_fold ?_
    rw [rot5_fn C (nwO n W O)]
    refine V_aload_n hC dX2_moveOn_73 2 rfl ?_
    refine V_get hC dX2_moveOn_74 inAX2 (mem_at 1 0 rfl rfl) rfl 4 (by decide) q179 rfl (v := .ref ((C 4) 0)) rfl ?_
    refine V_get hC dX2_moveOn_77 inAX1 (mem_at 4 0 rfl rfl) rfl 0 (by decide) q133 rfl (v := .int (((v 4).1) 0)) rfl ?_
    exact V_zret hC hQ hr (hvb 4 (by decide)) [1, 5, 2, 0, 3, 4] (u := [[(k, .inr (3, [.ref ce, .ref wa, .ref wt, .int (nI (n - 1)), .ref ((C 4) 0), .int fl, .int co, .int ri, .int no, .int fa, .int bl, .int ca]))], [(ce, .inl (G.2.1 4, 5, .inr (.inr (.inr (.inr (refA 5 (rot5 C (nwO n W O))))))))], [(wt, .inl (G.2.1 4, 3, .inr (.inr (.inr (.inr (refA 3 (nwW n W O)))))))], famW 5 (fun ι => chP G ((rot5 C (nwO n W O)) ι) ((rot5 v (nwV n x y)) ι)), famW 3 (fun ι => chP G ((nwW n W O) ι) ((nwW n x y) ι)), chP G (C 4) (v 4)]) (by decide) rfl (by decide) (by decide) dX2_moveOn_80 (⟨by simp [kmR, hr6], by simp [kmN, kmO, kmB, kmC, kmW, kmV, kmY, hr6]⟩)
  · have hr6 : ¬ ri < 6 := by first | exact h1 | exact i32_nlt h1
    refine V_aload_n hC dX2_moveOn_9 0 rfl ?_
    refine V_dup hC dX2_moveOn_10 rfl ?_
    refine V_get hC dX2_moveOn_11 inAX2 (mem_at 0 0 rfl rfl) rfl 10 (by decide) q191 rfl (v := .int bl) rfl ?_
    refine V_iconst hC dX2_moveOn_14 (v := 1) (by decide) ?_
    refine V_iadd hC dX2_moveOn_15 ?_
    refine V_put hC dX2_moveOn_16 inAX2 tyX2 tyX2_ok nmX2 0 0 rfl rfl rfl 10 (by decide) q191 rfl rfl (rfl) (rfl) (Nat.le_of_ble_eq_true rfl) (ps' := [[(k, .inr (3, [.ref ce, .ref wa, .ref wt, .int (nI n), .ref (O 0), .int fl, .int co, .int ri, .int no, .int fa, .int (bl + 1), .int ca]))], [(ce, .inl (G.2.1 4, 5, .inr (.inr (.inr (.inr (refA 5 C))))))], [(wt, .inl (G.2.1 4, 3, .inr (.inr (.inr (.inr (refA 3 W))))))], famW 5 (fun ι => chP G (C ι) (v ι)), famW 3 (fun ι => chP G (W ι) (x ι)), chP G O y]) rfl ?_
    refine V_iconst hC dX2_moveOn_19 (v := 0) (by decide) ?_
    exact V_zret hC hQ hr (by decide) [0, 1, 2, 3, 4, 5] (u := [[(k, .inr (3, [.ref ce, .ref wa, .ref wt, .int (nI n), .ref (O 0), .int fl, .int co, .int ri, .int no, .int fa, .int (bl + 1), .int ca]))], [(ce, .inl (G.2.1 4, 5, .inr (.inr (.inr (.inr (refA 5 C))))))], [(wt, .inl (G.2.1 4, 3, .inr (.inr (.inr (.inr (refA 3 W))))))], famW 5 (fun ι => chP G (C ι) (v ι)), famW 3 (fun ι => chP G (W ι) (x ι)), chP G O y]) (by decide) rfl (by decide) (by decide) dX2_moveOn_20 (⟨by simp [kmR, hr6], by simp [kmN, kmO, kmB, kmC, kmW, kmV, kmY, hr6]⟩)
