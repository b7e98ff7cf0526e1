/-! ===== a step of the kiln ===== -/
abbrev KS : Type := (Nat → Int32) × Nat × (Nat → CV) × (Nat → CV) × CV × (Nat → Int32)
def hv7 (a b c d e f g : Int32) : Nat → Int32 := fun k => match k with
  | 0 => a
  | 1 => b
  | 2 => c
  | 3 => d
  | 4 => e
  | 5 => f
  | _ => g
def sV1 (S : KS) : Nat → CV := kmV (S.1 2) S.2.1 S.2.2.1 S.2.2.2.1 S.2.2.2.2.1
def sW1 (S : KS) : Nat → Int32 := wm0 (sV1 S) S.2.2.2.2.2 (kBurns (S.1 1) (S.1 0))
def sV2 (S : KS) : Nat → CV := kvF (sW1 S) (sV1 S) 5
def sR1 (S : KS) : Int32 := kRing1 ((sV2 S 3).1 0) (mxMelt (sV2 S 3).2.1) (sW1 S 3) (S.1 2)
def kst (S : KS) : KS := (hv7 (S.1 0) (kCoal (S.1 1) (S.1 0)) (kRing2 (sW1 S 3) (sR1 S)) (S.1 3 + 1) (kFall (sW1 S 3) (sR1 S) (S.1 4)) (kmB (S.1 2) (S.1 5)) (kcF (sW1 S) (sV1 S) (kCarb (S.1 1) (S.1 0) (S.1 6)) 5), kmN (S.1 2) S.2.1, sV2 S, kmW (S.1 2) S.2.1 S.2.2.2.1 S.2.2.2.2.1, kmY (S.1 2) S.2.2.1 S.2.2.2.2.1, sW1 S)
def cpW (w u : Nat → Int32) : Nat → Int32 := upd (upd (upd (upd (upd w 0 (u 0)) 1 (u 1)) 2 (u 2)) 3 (u 3)) 4 (u 4)
theorem kv_bin {w : Nat → Int32} {v : Nat → CV} {t j : Nat} (h : (v j).1 0 = 0 ∨ (v j).1 0 = 1) : (kvF w v t j).1 0 = 0 ∨ (kvF w v t j).1 0 = 1 := by
  unfold kvF stC
  split
  · split
    · exact h
    · exact h
  · exact h
set_option maxHeartbeats 4000000 in
set_option maxRecDepth 100000 in
/-- ClinkerWorks$Kiln.warmCells -/
theorem c_X2_warmCells (l : Launch) (G : VG) (k ce wa wt n : Nat) (O : Nat → Nat) (fl co ri no fa bl ca : Int32) (C : Nat → Nat → Nat) (w : Nat → Int32) (v : Nat → CV) (b : Int32) : Mv l G yX2_warmCells cX2_warmCells 4 1 15 0 0 [.ref k, .int b] [[(k, .inr (3, [.ref ce, .ref wa, .ref wt, .int (nI n), .ref (O 0), .int fl, .int co, .int ri, .int no, .int fa, .int bl, .int ca]))], [(ce, .inl (G.2.1 4, 5, .inr (.inr (.inr (.inr (refA 5 C))))))], [(wa, .inl (G.2.1 0, 5, .inl w))], famW 5 (fun ι => chP G (C ι) (v ι))] (fun u => u = [[(k, .inr (3, [.ref ce, .ref wa, .ref wt, .int (nI n), .ref (O 0), .int fl, .int co, .int ri, .int no, .int fa, .int bl, .int ca]))], [(ce, .inl (G.2.1 4, 5, .inr (.inr (.inr (.inr (refA 5 C))))))], [(wa, .inl (G.2.1 0, 5, .inl (wm0 v w b)))], famW 5 (fun ι => chP G (C ι) (v ι))]) := by
  refine Mv_of (by decide) (Nat.le_of_ble_eq_true rfl) (fun pP eE sS mM aA bB tT cC AA QQ hC hr hnm hQ => ?_)
  refine V_aload_n hC dX2_warmCells_0 0 rfl ?_
  refine V_get hC dX2_warmCells_1 inAX2 (mem_at 0 0 rfl rfl) rfl 1 (by decide) q135 rfl (v := .ref wa) rfl ?_
  refine V_iconst hC dX2_warmCells_4 (v := 4) (by decide) ?_
  refine V_aload_n hC dX2_warmCells_5 0 rfl ?_
  refine V_get hC dX2_warmCells_6 inAX2 (mem_at 0 0 rfl rfl) rfl 1 (by decide) q135 rfl (v := .ref wa) rfl ?_
  refine V_iconst hC dX2_warmCells_9 (v := 4) (by decide) ?_
  refine V_iald hC dX2_warmCells_10 (mem_at 2 0 rfl rfl) (vin (by decide)) (x := 4) (by decide) ?_
  refine V_iconst hC dX2_warmCells_11 (v := 3) (by decide) ?_
  refine V_iload_n hC dX2_warmCells_12 1 rfl ?_
  refine V_imul hC dX2_warmCells_13 ?_
  refine V_iadd hC dX2_warmCells_14 ?_
  refine V_iconst hC dX2_warmCells_15 (v := 2) (by decide) ?_
  refine V_idiv hC dX2_warmCells_16 (by decide) ?_
  refine V_iast hC dX2_warmCells_17 2 0 rfl rfl (vin (by decide)) (z := 4) (by decide) (ps' := [[(k, .inr (3, [.ref ce, .ref wa, .ref wt, .int (nI n), .ref (O 0), .int fl, .int co, .int ri, .int no, .int fa, .int bl, .int ca]))], [(ce, .inl (G.2.1 4, 5, .inr (.inr (.inr (.inr (refA 5 C))))))], [(wa, .inl (G.2.1 0, 5, .inl (upd w 4 (((w 4) + (3 * b)) / 2))))], famW 5 (fun ι => chP G (C ι) (v ι))]) rfl ?_
  refine V_iconst hC dX2_warmCells_18 (v := 3) (by decide) ?_
  refine V_istore_n hC dX2_warmCells_19 (L' := [(2, .int 3), (0, .ref k), (1, .int b)]) (by decide) rfl ?_
  have ch1_4 : V pP l eE { frames := 1, cells := 0, slots := 0, locals := 15 } sS mM aA bB tT cC QQ G AA 4 [[(k, .inr (3, [.ref ce, .ref wa, .ref wt, .int (nI n), .ref (O 0), .int fl, .int co, .int ri, .int no, .int fa, .int bl, .int ca]))], [(ce, .inl (G.2.1 4, 5, .inr (.inr (.inr (.inr (refA 5 C))))))], [(wa, .inl (G.2.1 0, 5, .inl (wm0 v w b)))], famW 5 (fun ι => chP G (C ι) (v ι))] 0 0 20 [(0, .ref k), (1, .int b), (2, .int (-1))] [] := by
    refine V_iload_n hC dX2_warmCells_20 2 rfl ?_
    refine V_if_ltT hC dX2_warmCells_21 (tgt := 88) (by decide) (by decide) ?_
    exact V_vret hC hQ hr [0, 1, 2, 3] (u := [[(k, .inr (3, [.ref ce, .ref wa, .ref wt, .int (nI n), .ref (O 0), .int fl, .int co, .int ri, .int no, .int fa, .int bl, .int ca]))], [(ce, .inl (G.2.1 4, 5, .inr (.inr (.inr (.inr (refA 5 C))))))], [(wa, .inl (G.2.1 0, 5, .inl (wm0 v w b)))], famW 5 (fun ι => chP G (C ι) (v ι))]) (by decide) rfl (by decide) (by decide) dX2_warmCells_88 (rfl)
  have ch1_3 : V pP l eE { frames := 1, cells := 0, slots := 0, locals := 15 } sS mM aA bB tT cC QQ G AA 4 [[(k, .inr (3, [.ref ce, .ref wa, .ref wt, .int (nI n), .ref (O 0), .int fl, .int co, .int ri, .int no, .int fa, .int bl, .int ca]))], [(ce, .inl (G.2.1 4, 5, .inr (.inr (.inr (.inr (refA 5 C))))))], [(wa, .inl (G.2.1 0, 5, .inl (wm1 v w b)))], famW 5 (fun ι => chP G (C ι) (v ι))] 0 0 20 [(0, .ref k), (1, .int b), (2, .int 0)] [] := by
    refine V_iload_n hC dX2_warmCells_20 2 rfl ?_
    refine V_if_ltF hC dX2_warmCells_21 (tgt := 88) (by decide) (by decide) ?_
    refine V_aload_n hC dX2_warmCells_24 0 rfl ?_
    refine V_get hC dX2_warmCells_25 inAX2 (mem_at 0 0 rfl rfl) rfl 1 (by decide) q135 rfl (v := .ref wa) rfl ?_
    refine V_iload_n hC dX2_warmCells_28 2 rfl ?_
    refine V_iald hC dX2_warmCells_29 (mem_at 2 0 rfl rfl) (vin (by decide)) (x := 0) (by decide) ?_
    refine V_iconst hC dX2_warmCells_30 (v := 2) (by decide) ?_
    refine V_aload_n hC dX2_warmCells_31 0 rfl ?_
    refine V_get hC dX2_warmCells_32 inAX2 (mem_at 0 0 rfl rfl) rfl 1 (by decide) q135 rfl (v := .ref wa) rfl ?_
    refine V_iload_n hC dX2_warmCells_35 2 rfl ?_
    refine V_iconst hC dX2_warmCells_36 (v := 1) (by decide) ?_
    refine V_iadd hC dX2_warmCells_37 ?_
    refine V_eqi (y := 1) (by decide) ?_
    refine V_iald hC dX2_warmCells_38 (mem_at 2 0 rfl rfl) (vin (by decide)) (x := 1) (by decide) ?_
    refine V_imul hC dX2_warmCells_39 ?_
    refine V_iadd hC dX2_warmCells_40 ?_
    refine V_iconst hC dX2_warmCells_41 (v := 3) (by decide) ?_
    refine V_idiv hC dX2_warmCells_42 (by decide) ?_
    refine V_istore_n hC dX2_warmCells_43 (L' := [(3, .int ((((wm1 v w b) 0) + (2 * ((wm1 v w b) 1))) / 3)), (0, .ref k), (1, .int b), (2, .int 0)]) (by decide) rfl ?_
    refine V_aload_n hC dX2_warmCells_44 1 rfl ?_
    refine V_get hC dX2_warmCells_45 inAX2 (mem_at 0 0 rfl rfl) rfl 0 (by decide) q133 rfl (v := .ref ce) rfl ?_
    refine V_iload_n hC dX2_warmCells_48 3 rfl ?_
    refine V_aald hC dX2_warmCells_49 4 rfl (mem_at 1 0 rfl rfl) (vin (by decide)) (x := 0) (by decide) (b := (C 0) 0) (rfl) ?_
    refine V_get hC dX2_warmCells_50 inAX1 (mem_fam 3 0 rfl 0 (by decide) rfl) rfl 0 (by decide) q99 rfl (v := .int (((v 0).1) 0)) rfl ?_
    refine V_if_eq hC dX2_warmCells_53 (tgt := 71) (by decide) (fun h2 => ?_) (fun h2 => ?_)
    · refine V_aload_n hC dX2_warmCells_71 1 rfl ?_
      refine V_get hC dX2_warmCells_72 inAX2 (mem_at 0 0 rfl rfl) rfl 1 (by decide) q135 rfl (v := .ref wa) rfl ?_
      refine V_iload_n hC dX2_warmCells_75 3 rfl ?_
      refine V_iconst hC dX2_warmCells_76 (v := 0) (by decide) ?_
      refine V_iload_n hC dX2_warmCells_77 0 rfl ?_
      refine V_mmax hC q509 q510 q35 q511 (by decide) (Nat.le_of_ble_eq_true rfl) (by decide) (by decide) dX2_warmCells_78 ?_
      refine V_iast hC dX2_warmCells_81 2 0 rfl rfl (vin (by decide)) (z := 0) (by decide) (ps' := [[(k, .inr (3, [.ref ce, .ref wa, .ref wt, .int (nI n), .ref (O 0), .int fl, .int co, .int ri, .int no, .int fa, .int bl, .int ca]))], [(ce, .inl (G.2.1 4, 5, .inr (.inr (.inr (.inr (refA 5 C))))))], [(wa, .inl (G.2.1 0, 5, .inl (upd (wm1 v w b) 0 (mx 0 ((((wm1 v w b) 0) + (2 * ((wm1 v w b) 1))) / 3)))))], famW 5 (fun ι => chP G (C ι) (v ι))]) rfl ?_
      refine V_iinc hC dX2_warmCells_82 (v := (-1)) (L' := [(2, .int (-1)), (3, .int ((((wm1 v w b) 0) + (2 * ((wm1 v w b) 1))) / 3)), (0, .ref k), (1, .int b)]) (j := 3) rfl (by decide) (by decide) rfl ?_
      refine V_goto hC dX2_warmCells_85 (tgt := 20) (by decide) ?_
      refine V_loc (L' := [(0, .ref k), (1, .int b), (2, .int (-1))]) [2, 3, 0] rfl ?_
      rw [show (upd (wm1 v w b) 0 (mx 0 ((((wm1 v w b) 0) + (2 * ((wm1 v w b) 1))) / 3)) : Nat → Int32) = wm0 v w b from by unfold wm0 wmCell; simp only [if_pos h2]]
      exact ch1_4
    · refine V_aload_n hC dX2_warmCells_56 1 rfl ?_
      refine V_get hC dX2_warmCells_57 inAX2 (mem_at 0 0 rfl rfl) rfl 0 (by decide) q133 rfl (v := .ref ce) rfl ?_
      refine V_iload_n hC dX2_warmCells_60 3 rfl ?_
      refine V_aald hC dX2_warmCells_61 4 rfl (mem_at 1 0 rfl rfl) (vin (by decide)) (x := 0) (by decide) (b := (C 0) 0) (rfl) ?_
      refine V_get hC dX2_warmCells_62 inAX1 (mem_fam 3 0 rfl 0 (by decide) rfl) rfl 3 (by decide) q106 rfl (v := .int (((v 0).1) 1)) rfl ?_
      refine V_if_le hC dX2_warmCells_65 (tgt := 71) (by decide) (fun h3 => ?_) (fun h3 => ?_)
      · refine V_aload_n hC dX2_warmCells_71 1 rfl ?_
        refine V_get hC dX2_warmCells_72 inAX2 (mem_at 0 0 rfl rfl) rfl 1 (by decide) q135 rfl (v := .ref wa) rfl ?_
        refine V_iload_n hC dX2_warmCells_75 3 rfl ?_
        refine V_iconst hC dX2_warmCells_76 (v := 0) (by decide) ?_
        refine V_iload_n hC dX2_warmCells_77 0 rfl ?_
        refine V_mmax hC q509 q510 q35 q511 (by decide) (Nat.le_of_ble_eq_true rfl) (by decide) (by decide) dX2_warmCells_78 ?_
        refine V_iast hC dX2_warmCells_81 2 0 rfl rfl (vin (by decide)) (z := 0) (by decide) (ps' := [[(k, .inr (3, [.ref ce, .ref wa, .ref wt, .int (nI n), .ref (O 0), .int fl, .int co, .int ri, .int no, .int fa, .int bl, .int ca]))], [(ce, .inl (G.2.1 4, 5, .inr (.inr (.inr (.inr (refA 5 C))))))], [(wa, .inl (G.2.1 0, 5, .inl (upd (wm1 v w b) 0 (mx 0 ((((wm1 v w b) 0) + (2 * ((wm1 v w b) 1))) / 3)))))], famW 5 (fun ι => chP G (C ι) (v ι))]) rfl ?_
        refine V_iinc hC dX2_warmCells_82 (v := (-1)) (L' := [(2, .int (-1)), (3, .int ((((wm1 v w b) 0) + (2 * ((wm1 v w b) 1))) / 3)), (0, .ref k), (1, .int b)]) (j := 3) rfl (by decide) (by decide) rfl ?_
        refine V_goto hC dX2_warmCells_85 (tgt := 20) (by decide) ?_
        refine V_loc (L' := [(0, .ref k), (1, .int b), (2, .int (-1))]) [2, 3, 0] rfl ?_
        rw [show (upd (wm1 v w b) 0 (mx 0 ((((wm1 v w b) 0) + (2 * ((wm1 v w b) 1))) / 3)) : Nat → Int32) = wm0 v w b from by unfold wm0 wmCell; simp only [if_neg h2, if_pos h3]]
        exact ch1_4
      · refine V_iinc hC dX2_warmCells_68 (v := ((((wm1 v w b) 0) + (2 * ((wm1 v w b) 1))) / 3) + (-1)) (L' := [(3, .int (((((wm1 v w b) 0) + (2 * ((wm1 v w b) 1))) / 3) + (-1))), (0, .ref k), (1, .int b), (2, .int 0)]) (j := 0) rfl (by rw [show Int32.ofInt (-1) = (-1 : Int32) by decide]) (by decide) rfl ?_
        refine V_aload_n hC dX2_warmCells_71 1 rfl ?_
        refine V_get hC dX2_warmCells_72 inAX2 (mem_at 0 0 rfl rfl) rfl 1 (by decide) q135 rfl (v := .ref wa) rfl ?_
        refine V_iload_n hC dX2_warmCells_75 3 rfl ?_
        refine V_iconst hC dX2_warmCells_76 (v := 0) (by decide) ?_
        refine V_iload_n hC dX2_warmCells_77 0 rfl ?_
        refine V_mmax hC q509 q510 q35 q511 (by decide) (Nat.le_of_ble_eq_true rfl) (by decide) (by decide) dX2_warmCells_78 ?_
        refine V_iast hC dX2_warmCells_81 2 0 rfl rfl (vin (by decide)) (z := 0) (by decide) (ps' := [[(k, .inr (3, [.ref ce, .ref wa, .ref wt, .int (nI n), .ref (O 0), .int fl, .int co, .int ri, .int no, .int fa, .int bl, .int ca]))], [(ce, .inl (G.2.1 4, 5, .inr (.inr (.inr (.inr (refA 5 C))))))], [(wa, .inl (G.2.1 0, 5, .inl (upd (wm1 v w b) 0 (mx 0 (((((wm1 v w b) 0) + (2 * ((wm1 v w b) 1))) / 3) + (-1))))))], famW 5 (fun ι => chP G (C ι) (v ι))]) rfl ?_
        refine V_iinc hC dX2_warmCells_82 (v := (-1)) (L' := [(2, .int (-1)), (3, .int (((((wm1 v w b) 0) + (2 * ((wm1 v w b) 1))) / 3) + (-1))), (0, .ref k), (1, .int b)]) (j := 3) rfl (by decide) (by decide) rfl ?_
        refine V_goto hC dX2_warmCells_85 (tgt := 20) (by decide) ?_
        refine V_loc (L' := [(0, .ref k), (1, .int b), (2, .int (-1))]) [2, 3, 0] rfl ?_
        rw [show (upd (wm1 v w b) 0 (mx 0 (((((wm1 v w b) 0) + (2 * ((wm1 v w b) 1))) / 3) + (-1))) : Nat → Int32) = wm0 v w b from by unfold wm0 wmCell; simp only [if_neg h2, if_neg h3]]
        exact ch1_4
  have ch1_2 : V pP l eE { frames := 1, cells := 0, slots := 0, locals := 15 } sS mM aA bB tT cC QQ G AA 4 [[(k, .inr (3, [.ref ce, .ref wa, .ref wt, .int (nI n), .ref (O 0), .int fl, .int co, .int ri, .int no, .int fa, .int bl, .int ca]))], [(ce, .inl (G.2.1 4, 5, .inr (.inr (.inr (.inr (refA 5 C))))))], [(wa, .inl (G.2.1 0, 5, .inl (wm2 v w b)))], famW 5 (fun ι => chP G (C ι) (v ι))] 0 0 20 [(0, .ref k), (1, .int b), (2, .int 1)] [] := by
    refine V_iload_n hC dX2_warmCells_20 2 rfl ?_
    refine V_if_ltF hC dX2_warmCells_21 (tgt := 88) (by decide) (by decide) ?_
    refine V_aload_n hC dX2_warmCells_24 0 rfl ?_
    refine V_get hC dX2_warmCells_25 inAX2 (mem_at 0 0 rfl rfl) rfl 1 (by decide) q135 rfl (v := .ref wa) rfl ?_
    refine V_iload_n hC dX2_warmCells_28 2 rfl ?_
    refine V_iald hC dX2_warmCells_29 (mem_at 2 0 rfl rfl) (vin (by decide)) (x := 1) (by decide) ?_
    refine V_iconst hC dX2_warmCells_30 (v := 2) (by decide) ?_
    refine V_aload_n hC dX2_warmCells_31 0 rfl ?_
    refine V_get hC dX2_warmCells_32 inAX2 (mem_at 0 0 rfl rfl) rfl 1 (by decide) q135 rfl (v := .ref wa) rfl ?_
    refine V_iload_n hC dX2_warmCells_35 2 rfl ?_
    refine V_iconst hC dX2_warmCells_36 (v := 1) (by decide) ?_
    refine V_iadd hC dX2_warmCells_37 ?_
    refine V_eqi (y := 2) (by decide) ?_
    refine V_iald hC dX2_warmCells_38 (mem_at 2 0 rfl rfl) (vin (by decide)) (x := 2) (by decide) ?_
    refine V_imul hC dX2_warmCells_39 ?_
    refine V_iadd hC dX2_warmCells_40 ?_
    refine V_iconst hC dX2_warmCells_41 (v := 3) (by decide) ?_
    refine V_idiv hC dX2_warmCells_42 (by decide) ?_
    refine V_istore_n hC dX2_warmCells_43 (L' := [(3, .int ((((wm2 v w b) 1) + (2 * ((wm2 v w b) 2))) / 3)), (0, .ref k), (1, .int b), (2, .int 1)]) (by decide) rfl ?_
    refine V_aload_n hC dX2_warmCells_44 1 rfl ?_
    refine V_get hC dX2_warmCells_45 inAX2 (mem_at 0 0 rfl rfl) rfl 0 (by decide) q133 rfl (v := .ref ce) rfl ?_
    refine V_iload_n hC dX2_warmCells_48 3 rfl ?_
    refine V_aald hC dX2_warmCells_49 4 rfl (mem_at 1 0 rfl rfl) (vin (by decide)) (x := 1) (by decide) (b := (C 1) 0) (rfl) ?_
    refine V_get hC dX2_warmCells_50 inAX1 (mem_fam 3 0 rfl 1 (by decide) rfl) rfl 0 (by decide) q99 rfl (v := .int (((v 1).1) 0)) rfl ?_
    refine V_if_eq hC dX2_warmCells_53 (tgt := 71) (by decide) (fun h4 => ?_) (fun h4 => ?_)
    · refine V_aload_n hC dX2_warmCells_71 1 rfl ?_
      refine V_get hC dX2_warmCells_72 inAX2 (mem_at 0 0 rfl rfl) rfl 1 (by decide) q135 rfl (v := .ref wa) rfl ?_
      refine V_iload_n hC dX2_warmCells_75 3 rfl ?_
      refine V_iconst hC dX2_warmCells_76 (v := 0) (by decide) ?_
      refine V_iload_n hC dX2_warmCells_77 0 rfl ?_
      refine V_mmax hC q509 q510 q35 q511 (by decide) (Nat.le_of_ble_eq_true rfl) (by decide) (by decide) dX2_warmCells_78 ?_
      refine V_iast hC dX2_warmCells_81 2 0 rfl rfl (vin (by decide)) (z := 1) (by decide) (ps' := [[(k, .inr (3, [.ref ce, .ref wa, .ref wt, .int (nI n), .ref (O 0), .int fl, .int co, .int ri, .int no, .int fa, .int bl, .int ca]))], [(ce, .inl (G.2.1 4, 5, .inr (.inr (.inr (.inr (refA 5 C))))))], [(wa, .inl (G.2.1 0, 5, .inl (upd (wm2 v w b) 1 (mx 0 ((((wm2 v w b) 1) + (2 * ((wm2 v w b) 2))) / 3)))))], famW 5 (fun ι => chP G (C ι) (v ι))]) rfl ?_
      refine V_iinc hC dX2_warmCells_82 (v := 0) (L' := [(2, .int 0), (3, .int ((((wm2 v w b) 1) + (2 * ((wm2 v w b) 2))) / 3)), (0, .ref k), (1, .int b)]) (j := 3) rfl (by decide) (by decide) rfl ?_
      refine V_goto hC dX2_warmCells_85 (tgt := 20) (by decide) ?_
      refine V_loc (L' := [(0, .ref k), (1, .int b), (2, .int 0)]) [2, 3, 0] rfl ?_
      rw [show (upd (wm2 v w b) 1 (mx 0 ((((wm2 v w b) 1) + (2 * ((wm2 v w b) 2))) / 3)) : Nat → Int32) = wm1 v w b from by unfold wm1 wmCell; simp only [if_pos h4]]
      exact ch1_3
    · refine V_aload_n hC dX2_warmCells_56 1 rfl ?_
      refine V_get hC dX2_warmCells_57 inAX2 (mem_at 0 0 rfl rfl) rfl 0 (by decide) q133 rfl (v := .ref ce) rfl ?_
      refine V_iload_n hC dX2_warmCells_60 3 rfl ?_
      refine V_aald hC dX2_warmCells_61 4 rfl (mem_at 1 0 rfl rfl) (vin (by decide)) (x := 1) (by decide) (b := (C 1) 0) (rfl) ?_
      refine V_get hC dX2_warmCells_62 inAX1 (mem_fam 3 0 rfl 1 (by decide) rfl) rfl 3 (by decide) q106 rfl (v := .int (((v 1).1) 1)) rfl ?_
      refine V_if_le hC dX2_warmCells_65 (tgt := 71) (by decide) (fun h5 => ?_) (fun h5 => ?_)
      · refine V_aload_n hC dX2_warmCells_71 1 rfl ?_
        refine V_get hC dX2_warmCells_72 inAX2 (mem_at 0 0 rfl rfl) rfl 1 (by decide) q135 rfl (v := .ref wa) rfl ?_
        refine V_iload_n hC dX2_warmCells_75 3 rfl ?_
        refine V_iconst hC dX2_warmCells_76 (v := 0) (by decide) ?_
        refine V_iload_n hC dX2_warmCells_77 0 rfl ?_
        refine V_mmax hC q509 q510 q35 q511 (by decide) (Nat.le_of_ble_eq_true rfl) (by decide) (by decide) dX2_warmCells_78 ?_
        refine V_iast hC dX2_warmCells_81 2 0 rfl rfl (vin (by decide)) (z := 1) (by decide) (ps' := [[(k, .inr (3, [.ref ce, .ref wa, .ref wt, .int (nI n), .ref (O 0), .int fl, .int co, .int ri, .int no, .int fa, .int bl, .int ca]))], [(ce, .inl (G.2.1 4, 5, .inr (.inr (.inr (.inr (refA 5 C))))))], [(wa, .inl (G.2.1 0, 5, .inl (upd (wm2 v w b) 1 (mx 0 ((((wm2 v w b) 1) + (2 * ((wm2 v w b) 2))) / 3)))))], famW 5 (fun ι => chP G (C ι) (v ι))]) rfl ?_
        refine V_iinc hC dX2_warmCells_82 (v := 0) (L' := [(2, .int 0), (3, .int ((((wm2 v w b) 1) + (2 * ((wm2 v w b) 2))) / 3)), (0, .ref k), (1, .int b)]) (j := 3) rfl (by decide) (by decide) rfl ?_
        refine V_goto hC dX2_warmCells_85 (tgt := 20) (by decide) ?_
        refine V_loc (L' := [(0, .ref k), (1, .int b), (2, .int 0)]) [2, 3, 0] rfl ?_
        rw [show (upd (wm2 v w b) 1 (mx 0 ((((wm2 v w b) 1) + (2 * ((wm2 v w b) 2))) / 3)) : Nat → Int32) = wm1 v w b from by unfold wm1 wmCell; simp only [if_neg h4, if_pos h5]]
        exact ch1_3
      · refine V_iinc hC dX2_warmCells_68 (v := ((((wm2 v w b) 1) + (2 * ((wm2 v w b) 2))) / 3) + (-1)) (L' := [(3, .int (((((wm2 v w b) 1) + (2 * ((wm2 v w b) 2))) / 3) + (-1))), (0, .ref k), (1, .int b), (2, .int 1)]) (j := 0) rfl (by rw [show Int32.ofInt (-1) = (-1 : Int32) by decide]) (by decide) rfl ?_
        refine V_aload_n hC dX2_warmCells_71 1 rfl ?_
        refine V_get hC dX2_warmCells_72 inAX2 (mem_at 0 0 rfl rfl) rfl 1 (by decide) q135 rfl (v := .ref wa) rfl ?_
        refine V_iload_n hC dX2_warmCells_75 3 rfl ?_
        refine V_iconst hC dX2_warmCells_76 (v := 0) (by decide) ?_
        refine V_iload_n hC dX2_warmCells_77 0 rfl ?_
        refine V_mmax hC q509 q510 q35 q511 (by decide) (Nat.le_of_ble_eq_true rfl) (by decide) (by decide) dX2_warmCells_78 ?_
        refine V_iast hC dX2_warmCells_81 2 0 rfl rfl (vin (by decide)) (z := 1) (by decide) (ps' := [[(k, .inr (3, [.ref ce, .ref wa, .ref wt, .int (nI n), .ref (O 0), .int fl, .int co, .int ri, .int no, .int fa, .int bl, .int ca]))], [(ce, .inl (G.2.1 4, 5, .inr (.inr (.inr (.inr (refA 5 C))))))], [(wa, .inl (G.2.1 0, 5, .inl (upd (wm2 v w b) 1 (mx 0 (((((wm2 v w b) 1) + (2 * ((wm2 v w b) 2))) / 3) + (-1))))))], famW 5 (fun ι => chP G (C ι) (v ι))]) rfl ?_
        refine V_iinc hC dX2_warmCells_82 (v := 0) (L' := [(2, .int 0), (3, .int (((((wm2 v w b) 1) + (2 * ((wm2 v w b) 2))) / 3) + (-1))), (0, .ref k), (1, .int b)]) (j := 3) rfl (by decide) (by decide) rfl ?_
        refine V_goto hC dX2_warmCells_85 (tgt := 20) (by decide) ?_
        refine V_loc (L' := [(0, .ref k), (1, .int b), (2, .int 0)]) [2, 3, 0] rfl ?_
        rw [show (upd (wm2 v w b) 1 (mx 0 (((((wm2 v w b) 1) + (2 * ((wm2 v w b) 2))) / 3) + (-1))) : Nat → Int32) = wm1 v w b from by unfold wm1 wmCell; simp only [if_neg h4, if_neg h5]]
        exact ch1_3
  have ch1_1 : V pP l eE { frames := 1, cells := 0, slots := 0, locals := 15 } sS mM aA bB tT cC QQ G AA 4 [[(k, .inr (3, [.ref ce, .ref wa, .ref wt, .int (nI n), .ref (O 0), .int fl, .int co, .int ri, .int no, .int fa, .int bl, .int ca]))], [(ce, .inl (G.2.1 4, 5, .inr (.inr (.inr (.inr (refA 5 C))))))], [(wa, .inl (G.2.1 0, 5, .inl (wm3 v w b)))], famW 5 (fun ι => chP G (C ι) (v ι))] 0 0 20 [(0, .ref k), (1, .int b), (2, .int 2)] [] := by
    refine V_iload_n hC dX2_warmCells_20 2 rfl ?_
    refine V_if_ltF hC dX2_warmCells_21 (tgt := 88) (by decide) (by decide) ?_
    refine V_aload_n hC dX2_warmCells_24 0 rfl ?_
    refine V_get hC dX2_warmCells_25 inAX2 (mem_at 0 0 rfl rfl) rfl 1 (by decide) q135 rfl (v := .ref wa) rfl ?_
    refine V_iload_n hC dX2_warmCells_28 2 rfl ?_
    refine V_iald hC dX2_warmCells_29 (mem_at 2 0 rfl rfl) (vin (by decide)) (x := 2) (by decide) ?_
    refine V_iconst hC dX2_warmCells_30 (v := 2) (by decide) ?_
    refine V_aload_n hC dX2_warmCells_31 0 rfl ?_
    refine V_get hC dX2_warmCells_32 inAX2 (mem_at 0 0 rfl rfl) rfl 1 (by decide) q135 rfl (v := .ref wa) rfl ?_
    refine V_iload_n hC dX2_warmCells_35 2 rfl ?_
    refine V_iconst hC dX2_warmCells_36 (v := 1) (by decide) ?_
    refine V_iadd hC dX2_warmCells_37 ?_
    refine V_eqi (y := 3) (by decide) ?_
    refine V_iald hC dX2_warmCells_38 (mem_at 2 0 rfl rfl) (vin (by decide)) (x := 3) (by decide) ?_
    refine V_imul hC dX2_warmCells_39 ?_
    refine V_iadd hC dX2_warmCells_40 ?_
    refine V_iconst hC dX2_warmCells_41 (v := 3) (by decide) ?_
    refine V_idiv hC dX2_warmCells_42 (by decide) ?_
    refine V_istore_n hC dX2_warmCells_43 (L' := [(3, .int ((((wm3 v w b) 2) + (2 * ((wm3 v w b) 3))) / 3)), (0, .ref k), (1, .int b), (2, .int 2)]) (by decide) rfl ?_
    refine V_aload_n hC dX2_warmCells_44 1 rfl ?_
    refine V_get hC dX2_warmCells_45 inAX2 (mem_at 0 0 rfl rfl) rfl 0 (by decide) q133 rfl (v := .ref ce) rfl ?_
    refine V_iload_n hC dX2_warmCells_48 3 rfl ?_
    refine V_aald hC dX2_warmCells_49 4 rfl (mem_at 1 0 rfl rfl) (vin (by decide)) (x := 2) (by decide) (b := (C 2) 0) (rfl) ?_
    refine V_get hC dX2_warmCells_50 inAX1 (mem_fam 3 0 rfl 2 (by decide) rfl) rfl 0 (by decide) q99 rfl (v := .int (((v 2).1) 0)) rfl ?_
    refine V_if_eq hC dX2_warmCells_53 (tgt := 71) (by decide) (fun h6 => ?_) (fun h6 => ?_)
    · refine V_aload_n hC dX2_warmCells_71 1 rfl ?_
      refine V_get hC dX2_warmCells_72 inAX2 (mem_at 0 0 rfl rfl) rfl 1 (by decide) q135 rfl (v := .ref wa) rfl ?_
      refine V_iload_n hC dX2_warmCells_75 3 rfl ?_
      refine V_iconst hC dX2_warmCells_76 (v := 0) (by decide) ?_
      refine V_iload_n hC dX2_warmCells_77 0 rfl ?_
      refine V_mmax hC q509 q510 q35 q511 (by decide) (Nat.le_of_ble_eq_true rfl) (by decide) (by decide) dX2_warmCells_78 ?_
      refine V_iast hC dX2_warmCells_81 2 0 rfl rfl (vin (by decide)) (z := 2) (by decide) (ps' := [[(k, .inr (3, [.ref ce, .ref wa, .ref wt, .int (nI n), .ref (O 0), .int fl, .int co, .int ri, .int no, .int fa, .int bl, .int ca]))], [(ce, .inl (G.2.1 4, 5, .inr (.inr (.inr (.inr (refA 5 C))))))], [(wa, .inl (G.2.1 0, 5, .inl (upd (wm3 v w b) 2 (mx 0 ((((wm3 v w b) 2) + (2 * ((wm3 v w b) 3))) / 3)))))], famW 5 (fun ι => chP G (C ι) (v ι))]) rfl ?_
      refine V_iinc hC dX2_warmCells_82 (v := 1) (L' := [(2, .int 1), (3, .int ((((wm3 v w b) 2) + (2 * ((wm3 v w b) 3))) / 3)), (0, .ref k), (1, .int b)]) (j := 3) rfl (by decide) (by decide) rfl ?_
      refine V_goto hC dX2_warmCells_85 (tgt := 20) (by decide) ?_
      refine V_loc (L' := [(0, .ref k), (1, .int b), (2, .int 1)]) [2, 3, 0] rfl ?_
      rw [show (upd (wm3 v w b) 2 (mx 0 ((((wm3 v w b) 2) + (2 * ((wm3 v w b) 3))) / 3)) : Nat → Int32) = wm2 v w b from by unfold wm2 wmCell; simp only [if_pos h6]]
      exact ch1_2
    · refine V_aload_n hC dX2_warmCells_56 1 rfl ?_
      refine V_get hC dX2_warmCells_57 inAX2 (mem_at 0 0 rfl rfl) rfl 0 (by decide) q133 rfl (v := .ref ce) rfl ?_
      refine V_iload_n hC dX2_warmCells_60 3 rfl ?_
      refine V_aald hC dX2_warmCells_61 4 rfl (mem_at 1 0 rfl rfl) (vin (by decide)) (x := 2) (by decide) (b := (C 2) 0) (rfl) ?_
      refine V_get hC dX2_warmCells_62 inAX1 (mem_fam 3 0 rfl 2 (by decide) rfl) rfl 3 (by decide) q106 rfl (v := .int (((v 2).1) 1)) rfl ?_
      refine V_if_le hC dX2_warmCells_65 (tgt := 71) (by decide) (fun h7 => ?_) (fun h7 => ?_)
      · refine V_aload_n hC dX2_warmCells_71 1 rfl ?_
        refine V_get hC dX2_warmCells_72 inAX2 (mem_at 0 0 rfl rfl) rfl 1 (by decide) q135 rfl (v := .ref wa) rfl ?_
        refine V_iload_n hC dX2_warmCells_75 3 rfl ?_
        refine V_iconst hC dX2_warmCells_76 (v := 0) (by decide) ?_
        refine V_iload_n hC dX2_warmCells_77 0 rfl ?_
        refine V_mmax hC q509 q510 q35 q511 (by decide) (Nat.le_of_ble_eq_true rfl) (by decide) (by decide) dX2_warmCells_78 ?_
        refine V_iast hC dX2_warmCells_81 2 0 rfl rfl (vin (by decide)) (z := 2) (by decide) (ps' := [[(k, .inr (3, [.ref ce, .ref wa, .ref wt, .int (nI n), .ref (O 0), .int fl, .int co, .int ri, .int no, .int fa, .int bl, .int ca]))], [(ce, .inl (G.2.1 4, 5, .inr (.inr (.inr (.inr (refA 5 C))))))], [(wa, .inl (G.2.1 0, 5, .inl (upd (wm3 v w b) 2 (mx 0 ((((wm3 v w b) 2) + (2 * ((wm3 v w b) 3))) / 3)))))], famW 5 (fun ι => chP G (C ι) (v ι))]) rfl ?_
        refine V_iinc hC dX2_warmCells_82 (v := 1) (L' := [(2, .int 1), (3, .int ((((wm3 v w b) 2) + (2 * ((wm3 v w b) 3))) / 3)), (0, .ref k), (1, .int b)]) (j := 3) rfl (by decide) (by decide) rfl ?_
        refine V_goto hC dX2_warmCells_85 (tgt := 20) (by decide) ?_
        refine V_loc (L' := [(0, .ref k), (1, .int b), (2, .int 1)]) [2, 3, 0] rfl ?_
        rw [show (upd (wm3 v w b) 2 (mx 0 ((((wm3 v w b) 2) + (2 * ((wm3 v w b) 3))) / 3)) : Nat → Int32) = wm2 v w b from by unfold wm2 wmCell; simp only [if_neg h6, if_pos h7]]
        exact ch1_2
      · refine V_iinc hC dX2_warmCells_68 (v := ((((wm3 v w b) 2) + (2 * ((wm3 v w b) 3))) / 3) + (-1)) (L' := [(3, .int (((((wm3 v w b) 2) + (2 * ((wm3 v w b) 3))) / 3) + (-1))), (0, .ref k), (1, .int b), (2, .int 2)]) (j := 0) rfl (by rw [show Int32.ofInt (-1) = (-1 : Int32) by decide]) (by decide) rfl ?_
        refine V_aload_n hC dX2_warmCells_71 1 rfl ?_
        refine V_get hC dX2_warmCells_72 inAX2 (mem_at 0 0 rfl rfl) rfl 1 (by decide) q135 rfl (v := .ref wa) rfl ?_
        refine V_iload_n hC dX2_warmCells_75 3 rfl ?_
        refine V_iconst hC dX2_warmCells_76 (v := 0) (by decide) ?_
        refine V_iload_n hC dX2_warmCells_77 0 rfl ?_
        refine V_mmax hC q509 q510 q35 q511 (by decide) (Nat.le_of_ble_eq_true rfl) (by decide) (by decide) dX2_warmCells_78 ?_
        refine V_iast hC dX2_warmCells_81 2 0 rfl rfl (vin (by decide)) (z := 2) (by decide) (ps' := [[(k, .inr (3, [.ref ce, .ref wa, .ref wt, .int (nI n), .ref (O 0), .int fl, .int co, .int ri, .int no, .int fa, .int bl, .int ca]))], [(ce, .inl (G.2.1 4, 5, .inr (.inr (.inr (.inr (refA 5 C))))))], [(wa, .inl (G.2.1 0, 5, .inl (upd (wm3 v w b) 2 (mx 0 (((((wm3 v w b) 2) + (2 * ((wm3 v w b) 3))) / 3) + (-1))))))], famW 5 (fun ι => chP G (C ι) (v ι))]) rfl ?_
        refine V_iinc hC dX2_warmCells_82 (v := 1) (L' := [(2, .int 1), (3, .int (((((wm3 v w b) 2) + (2 * ((wm3 v w b) 3))) / 3) + (-1))), (0, .ref k), (1, .int b)]) (j := 3) rfl (by decide) (by decide) rfl ?_
        refine V_goto hC dX2_warmCells_85 (tgt := 20) (by decide) ?_
        refine V_loc (L' := [(0, .ref k), (1, .int b), (2, .int 1)]) [2, 3, 0] rfl ?_
        rw [show (upd (wm3 v w b) 2 (mx 0 (((((wm3 v w b) 2) + (2 * ((wm3 v w b) 3))) / 3) + (-1))) : Nat → Int32) = wm2 v w b from by unfold wm2 wmCell; simp only [if_neg h6, if_neg h7]]
        exact ch1_2
  have ch1_0 : V pP l eE { frames := 1, cells := 0, slots := 0, locals := 15 } sS mM aA bB tT cC QQ G AA 4 [[(k, .inr (3, [.ref ce, .ref wa, .ref wt, .int (nI n), .ref (O 0), .int fl, .int co, .int ri, .int no, .int fa, .int bl, .int ca]))], [(ce, .inl (G.2.1 4, 5, .inr (.inr (.inr (.inr (refA 5 C))))))], [(wa, .inl (G.2.1 0, 5, .inl (wm4 w b)))], famW 5 (fun ι => chP G (C ι) (v ι))] 0 0 20 [(0, .ref k), (1, .int b), (2, .int 3)] [] := by
    refine V_iload_n hC dX2_warmCells_20 2 rfl ?_
    refine V_if_ltF hC dX2_warmCells_21 (tgt := 88) (by decide) (by decide) ?_
    refine V_aload_n hC dX2_warmCells_24 0 rfl ?_
    refine V_get hC dX2_warmCells_25 inAX2 (mem_at 0 0 rfl rfl) rfl 1 (by decide) q135 rfl (v := .ref wa) rfl ?_
    refine V_iload_n hC dX2_warmCells_28 2 rfl ?_
    refine V_iald hC dX2_warmCells_29 (mem_at 2 0 rfl rfl) (vin (by decide)) (x := 3) (by decide) ?_
    refine V_iconst hC dX2_warmCells_30 (v := 2) (by decide) ?_
    refine V_aload_n hC dX2_warmCells_31 0 rfl ?_
    refine V_get hC dX2_warmCells_32 inAX2 (mem_at 0 0 rfl rfl) rfl 1 (by decide) q135 rfl (v := .ref wa) rfl ?_
    refine V_iload_n hC dX2_warmCells_35 2 rfl ?_
    refine V_iconst hC dX2_warmCells_36 (v := 1) (by decide) ?_
    refine V_iadd hC dX2_warmCells_37 ?_
    refine V_eqi (y := 4) (by decide) ?_
    refine V_iald hC dX2_warmCells_38 (mem_at 2 0 rfl rfl) (vin (by decide)) (x := 4) (by decide) ?_
    refine V_imul hC dX2_warmCells_39 ?_
    refine V_iadd hC dX2_warmCells_40 ?_
    refine V_iconst hC dX2_warmCells_41 (v := 3) (by decide) ?_
    refine V_idiv hC dX2_warmCells_42 (by decide) ?_
    refine V_istore_n hC dX2_warmCells_43 (L' := [(3, .int ((((wm4 w b) 3) + (2 * ((wm4 w b) 4))) / 3)), (0, .ref k), (1, .int b), (2, .int 3)]) (by decide) rfl ?_
    refine V_aload_n hC dX2_warmCells_44 1 rfl ?_
    refine V_get hC dX2_warmCells_45 inAX2 (mem_at 0 0 rfl rfl) rfl 0 (by decide) q133 rfl (v := .ref ce) rfl ?_
    refine V_iload_n hC dX2_warmCells_48 3 rfl ?_
    refine V_aald hC dX2_warmCells_49 4 rfl (mem_at 1 0 rfl rfl) (vin (by decide)) (x := 3) (by decide) (b := (C 3) 0) (rfl) ?_
    refine V_get hC dX2_warmCells_50 inAX1 (mem_fam 3 0 rfl 3 (by decide) rfl) rfl 0 (by decide) q99 rfl (v := .int (((v 3).1) 0)) rfl ?_
    refine V_if_eq hC dX2_warmCells_53 (tgt := 71) (by decide) (fun h8 => ?_) (fun h8 => ?_)
    · refine V_aload_n hC dX2_warmCells_71 1 rfl ?_
      refine V_get hC dX2_warmCells_72 inAX2 (mem_at 0 0 rfl rfl) rfl 1 (by decide) q135 rfl (v := .ref wa) rfl ?_
      refine V_iload_n hC dX2_warmCells_75 3 rfl ?_
      refine V_iconst hC dX2_warmCells_76 (v := 0) (by decide) ?_
      refine V_iload_n hC dX2_warmCells_77 0 rfl ?_
      refine V_mmax hC q509 q510 q35 q511 (by decide) (Nat.le_of_ble_eq_true rfl) (by decide) (by decide) dX2_warmCells_78 ?_
      refine V_iast hC dX2_warmCells_81 2 0 rfl rfl (vin (by decide)) (z := 3) (by decide) (ps' := [[(k, .inr (3, [.ref ce, .ref wa, .ref wt, .int (nI n), .ref (O 0), .int fl, .int co, .int ri, .int no, .int fa, .int bl, .int ca]))], [(ce, .inl (G.2.1 4, 5, .inr (.inr (.inr (.inr (refA 5 C))))))], [(wa, .inl (G.2.1 0, 5, .inl (upd (wm4 w b) 3 (mx 0 ((((wm4 w b) 3) + (2 * ((wm4 w b) 4))) / 3)))))], famW 5 (fun ι => chP G (C ι) (v ι))]) rfl ?_
      refine V_iinc hC dX2_warmCells_82 (v := 2) (L' := [(2, .int 2), (3, .int ((((wm4 w b) 3) + (2 * ((wm4 w b) 4))) / 3)), (0, .ref k), (1, .int b)]) (j := 3) rfl (by decide) (by decide) rfl ?_
      refine V_goto hC dX2_warmCells_85 (tgt := 20) (by decide) ?_
      refine V_loc (L' := [(0, .ref k), (1, .int b), (2, .int 2)]) [2, 3, 0] rfl ?_
      rw [show (upd (wm4 w b) 3 (mx 0 ((((wm4 w b) 3) + (2 * ((wm4 w b) 4))) / 3)) : Nat → Int32) = wm3 v w b from by unfold wm3 wmCell; simp only [if_pos h8]]
      exact ch1_1
    · refine V_aload_n hC dX2_warmCells_56 1 rfl ?_
      refine V_get hC dX2_warmCells_57 inAX2 (mem_at 0 0 rfl rfl) rfl 0 (by decide) q133 rfl (v := .ref ce) rfl ?_
      refine V_iload_n hC dX2_warmCells_60 3 rfl ?_
      refine V_aald hC dX2_warmCells_61 4 rfl (mem_at 1 0 rfl rfl) (vin (by decide)) (x := 3) (by decide) (b := (C 3) 0) (rfl) ?_
      refine V_get hC dX2_warmCells_62 inAX1 (mem_fam 3 0 rfl 3 (by decide) rfl) rfl 3 (by decide) q106 rfl (v := .int (((v 3).1) 1)) rfl ?_
      refine V_if_le hC dX2_warmCells_65 (tgt := 71) (by decide) (fun h9 => ?_) (fun h9 => ?_)
      · refine V_aload_n hC dX2_warmCells_71 1 rfl ?_
        refine V_get hC dX2_warmCells_72 inAX2 (mem_at 0 0 rfl rfl) rfl 1 (by decide) q135 rfl (v := .ref wa) rfl ?_
        refine V_iload_n hC dX2_warmCells_75 3 rfl ?_
        refine V_iconst hC dX2_warmCells_76 (v := 0) (by decide) ?_
        refine V_iload_n hC dX2_warmCells_77 0 rfl ?_
        refine V_mmax hC q509 q510 q35 q511 (by decide) (Nat.le_of_ble_eq_true rfl) (by decide) (by decide) dX2_warmCells_78 ?_
        refine V_iast hC dX2_warmCells_81 2 0 rfl rfl (vin (by decide)) (z := 3) (by decide) (ps' := [[(k, .inr (3, [.ref ce, .ref wa, .ref wt, .int (nI n), .ref (O 0), .int fl, .int co, .int ri, .int no, .int fa, .int bl, .int ca]))], [(ce, .inl (G.2.1 4, 5, .inr (.inr (.inr (.inr (refA 5 C))))))], [(wa, .inl (G.2.1 0, 5, .inl (upd (wm4 w b) 3 (mx 0 ((((wm4 w b) 3) + (2 * ((wm4 w b) 4))) / 3)))))], famW 5 (fun ι => chP G (C ι) (v ι))]) rfl ?_
        refine V_iinc hC dX2_warmCells_82 (v := 2) (L' := [(2, .int 2), (3, .int ((((wm4 w b) 3) + (2 * ((wm4 w b) 4))) / 3)), (0, .ref k), (1, .int b)]) (j := 3) rfl (by decide) (by decide) rfl ?_
        refine V_goto hC dX2_warmCells_85 (tgt := 20) (by decide) ?_
        refine V_loc (L' := [(0, .ref k), (1, .int b), (2, .int 2)]) [2, 3, 0] rfl ?_
        rw [show (upd (wm4 w b) 3 (mx 0 ((((wm4 w b) 3) + (2 * ((wm4 w b) 4))) / 3)) : Nat → Int32) = wm3 v w b from by unfold wm3 wmCell; simp only [if_neg h8, if_pos h9]]
        exact ch1_1
      · refine V_iinc hC dX2_warmCells_68 (v := ((((wm4 w b) 3) + (2 * ((wm4 w b) 4))) / 3) + (-1)) (L' := [(3, .int (((((wm4 w b) 3) + (2 * ((wm4 w b) 4))) / 3) + (-1))), (0, .ref k), (1, .int b), (2, .int 3)]) (j := 0) rfl (by rw [show Int32.ofInt (-1) = (-1 : Int32) by decide]) (by decide) rfl ?_
        refine V_aload_n hC dX2_warmCells_71 1 rfl ?_
        refine V_get hC dX2_warmCells_72 inAX2 (mem_at 0 0 rfl rfl) rfl 1 (by decide) q135 rfl (v := .ref wa) rfl ?_
        refine V_iload_n hC dX2_warmCells_75 3 rfl ?_
        refine V_iconst hC dX2_warmCells_76 (v := 0) (by decide) ?_
        refine V_iload_n hC dX2_warmCells_77 0 rfl ?_
        refine V_mmax hC q509 q510 q35 q511 (by decide) (Nat.le_of_ble_eq_true rfl) (by decide) (by decide) dX2_warmCells_78 ?_
        refine V_iast hC dX2_warmCells_81 2 0 rfl rfl (vin (by decide)) (z := 3) (by decide) (ps' := [[(k, .inr (3, [.ref ce, .ref wa, .ref wt, .int (nI n), .ref (O 0), .int fl, .int co, .int ri, .int no, .int fa, .int bl, .int ca]))], [(ce, .inl (G.2.1 4, 5, .inr (.inr (.inr (.inr (refA 5 C))))))], [(wa, .inl (G.2.1 0, 5, .inl (upd (wm4 w b) 3 (mx 0 (((((wm4 w b) 3) + (2 * ((wm4 w b) 4))) / 3) + (-1))))))], famW 5 (fun ι => chP G (C ι) (v ι))]) rfl ?_
        refine V_iinc hC dX2_warmCells_82 (v := 2) (L' := [(2, .int 2), (3, .int (((((wm4 w b) 3) + (2 * ((wm4 w b) 4))) / 3) + (-1))), (0, .ref k), (1, .int b)]) (j := 3) rfl (by decide) (by decide) rfl ?_
        refine V_goto hC dX2_warmCells_85 (tgt := 20) (by decide) ?_
        refine V_loc (L' := [(0, .ref k), (1, .int b), (2, .int 2)]) [2, 3, 0] rfl ?_
        rw [show (upd (wm4 w b) 3 (mx 0 (((((wm4 w b) 3) + (2 * ((wm4 w b) 4))) / 3) + (-1))) : Nat → Int32) = wm3 v w b from by unfold wm3 wmCell; simp only [if_neg h8, if_neg h9]]
        exact ch1_1
  refine V_loc (L' := [(0, .ref k), (1, .int b), (2, .int 3)]) [1, 2, 0] rfl ?_
  exact ch1_0
set_option maxHeartbeats 4000000 in
set_option maxRecDepth 100000 in
/-- ClinkerWorks$Kiln.changeRing -/
theorem c_X2_changeRing (l : Launch) (G : VG) (k ce wa wt n : Nat) (O : Nat → Nat) (fl co ri no fa bl ca : Int32) (C : Nat → Nat → Nat) (w : Nat → Int32) (v : Nat → CV) : Mv l G yX2_changeRing cX2_changeRing 2 2 40 0 0 [.ref k] [[(k, .inr (3, [.ref ce, .ref wa, .ref wt, .int (nI n), .ref (O 0), .int fl, .int co, .int ri, .int no, .int fa, .int bl, .int ca]))], [(ce, .inl (G.2.1 4, 5, .inr (.inr (.inr (.inr (refA 5 C))))))], [(wa, .inl (G.2.1 0, 5, .inl w))], famW 5 (fun ι => chP G (C ι) (v ι))] (fun u => u = [[(k, .inr (3, [.ref ce, .ref wa, .ref wt, .int (nI n), .ref (O 0), .int fl, .int co, .int (kRing2 (w 3) (kRing1 ((v 3).1 0) (mxMelt (v 3).2.1) (w 3) ri)), .int no, .int (kFall (w 3) (kRing1 ((v 3).1 0) (mxMelt (v 3).2.1) (w 3) ri) fa), .int bl, .int ca]))], [(ce, .inl (G.2.1 4, 5, .inr (.inr (.inr (.inr (refA 5 C))))))], [(wa, .inl (G.2.1 0, 5, .inl w))], famW 5 (fun ι => chP G (C ι) (v ι))]) := by
  refine Mv_of (by decide) (Nat.le_of_ble_eq_true rfl) (fun pP eE sS mM aA bB tT cC AA QQ hC hr hnm hQ => ?_)
  refine V_aload_n hC dX2_changeRing_0 0 rfl ?_
  refine V_get hC dX2_changeRing_1 inAX2 (mem_at 0 0 rfl rfl) rfl 0 (by decide) q133 rfl (v := .ref ce) rfl ?_
  refine V_iconst hC dX2_changeRing_4 (v := 3) (by decide) ?_
  refine V_aald hC dX2_changeRing_5 4 rfl (mem_at 1 0 rfl rfl) (vin (by decide)) (x := 3) (by decide) (b := (C 3) 0) (rfl) ?_
  refine V_astore_n hC dX2_changeRing_6 (L' := [(1, .ref ((C 3) 0)), (0, .ref k)]) (by decide) rfl ?_
  refine V_aload_n hC dX2_changeRing_7 0 rfl ?_
  refine V_get hC dX2_changeRing_8 inAX1 (mem_fam 3 0 rfl 3 (by decide) rfl) rfl 0 (by decide) q99 rfl (v := .int (((v 3).1) 0)) rfl ?_
  refine V_if_eq hC dX2_changeRing_11 (tgt := 44) (by decide) (fun h1 => ?_) (fun h1 => ?_)
  · refine V_aload_n hC dX2_changeRing_44 1 rfl ?_
    refine V_get hC dX2_changeRing_45 inAX2 (mem_at 0 0 rfl rfl) rfl 1 (by decide) q135 rfl (v := .ref wa) rfl ?_
    refine V_iconst hC dX2_changeRing_48 (v := 3) (by decide) ?_
    refine V_iald hC dX2_changeRing_49 (mem_at 2 0 rfl rfl) (vin (by decide)) (x := 3) (by decide) ?_
    refine V_iconst hC dX2_changeRing_50 (v := 5) (by decide) ?_
    refine V_icmp_ge hC dX2_changeRing_51 (tgt := 76) (by decide) (fun h2 => ?_) (fun h2 => ?_)
    · exact V_vret hC hQ hr [0, 1, 2, 3] (u := [[(k, .inr (3, [.ref ce, .ref wa, .ref wt, .int (nI n), .ref (O 0), .int fl, .int co, .int ri, .int no, .int fa, .int bl, .int ca]))], [(ce, .inl (G.2.1 4, 5, .inr (.inr (.inr (.inr (refA 5 C))))))], [(wa, .inl (G.2.1 0, 5, .inl w))], famW 5 (fun ι => chP G (C ι) (v ι))]) (by decide) rfl (by decide) (by decide) dX2_changeRing_76 (by simp only [kRing1, kRing2, kFall, if_pos h1, if_pos h2])
    · refine V_aload_n hC dX2_changeRing_54 1 rfl ?_
      refine V_get hC dX2_changeRing_55 inAX2 (mem_at 0 0 rfl rfl) rfl 7 (by decide) q147 rfl (v := .int ri) rfl ?_
      refine V_if_le hC dX2_changeRing_58 (tgt := 76) (by decide) (fun h3 => ?_) (fun h3 => ?_)
      · exact V_vret hC hQ hr [0, 1, 2, 3] (u := [[(k, .inr (3, [.ref ce, .ref wa, .ref wt, .int (nI n), .ref (O 0), .int fl, .int co, .int ri, .int no, .int fa, .int bl, .int ca]))], [(ce, .inl (G.2.1 4, 5, .inr (.inr (.inr (.inr (refA 5 C))))))], [(wa, .inl (G.2.1 0, 5, .inl w))], famW 5 (fun ι => chP G (C ι) (v ι))]) (by decide) rfl (by decide) (by decide) dX2_changeRing_76 (by simp only [kRing1, kRing2, kFall, if_pos h1, if_neg h2, if_pos h3])
      · refine V_aload_n hC dX2_changeRing_61 1 rfl ?_
        refine V_iconst hC dX2_changeRing_62 (v := 0) (by decide) ?_
        refine V_put hC dX2_changeRing_63 inAX2 tyX2 tyX2_ok nmX2 0 0 rfl rfl rfl 7 (by decide) q147 rfl rfl (rfl) (rfl) (Nat.le_of_ble_eq_true rfl) (ps' := [[(k, .inr (3, [.ref ce, .ref wa, .ref wt, .int (nI n), .ref (O 0), .int fl, .int co, .int 0, .int no, .int fa, .int bl, .int ca]))], [(ce, .inl (G.2.1 4, 5, .inr (.inr (.inr (.inr (refA 5 C))))))], [(wa, .inl (G.2.1 0, 5, .inl w))], famW 5 (fun ι => chP G (C ι) (v ι))]) rfl ?_
        refine V_aload_n hC dX2_changeRing_66 1 rfl ?_
        refine V_dup hC dX2_changeRing_67 rfl ?_
        refine V_get hC dX2_changeRing_68 inAX2 (mem_at 0 0 rfl rfl) rfl 9 (by decide) q151 rfl (v := .int fa) rfl ?_
        refine V_iconst hC dX2_changeRing_71 (v := 1) (by decide) ?_
        refine V_iadd hC dX2_changeRing_72 ?_
        refine V_put hC dX2_changeRing_73 inAX2 tyX2 tyX2_ok nmX2 0 0 rfl rfl rfl 9 (by decide) q151 rfl rfl (rfl) (rfl) (Nat.le_of_ble_eq_true rfl) (ps' := [[(k, .inr (3, [.ref ce, .ref wa, .ref wt, .int (nI n), .ref (O 0), .int fl, .int co, .int 0, .int no, .int (fa + 1), .int bl, .int ca]))], [(ce, .inl (G.2.1 4, 5, .inr (.inr (.inr (.inr (refA 5 C))))))], [(wa, .inl (G.2.1 0, 5, .inl w))], famW 5 (fun ι => chP G (C ι) (v ι))]) rfl ?_
        exact V_vret hC hQ hr [0, 1, 2, 3] (u := [[(k, .inr (3, [.ref ce, .ref wa, .ref wt, .int (nI n), .ref (O 0), .int fl, .int co, .int 0, .int no, .int (fa + 1), .int bl, .int ca]))], [(ce, .inl (G.2.1 4, 5, .inr (.inr (.inr (.inr (refA 5 C))))))], [(wa, .inl (G.2.1 0, 5, .inl w))], famW 5 (fun ι => chP G (C ι) (v ι))]) (by decide) rfl (by decide) (by decide) dX2_changeRing_76 (by simp only [kRing1, kRing2, kFall, if_pos h1, if_neg h2, if_neg h3])
  · refine V_sub [3, 0, 1, 2] (by decide) (u := [famW 5 (fun ι => chP G (C ι) (v ι)), [(k, .inr (3, [.ref ce, .ref wa, .ref wt, .int (nI n), .ref (O 0), .int fl, .int co, .int ri, .int no, .int fa, .int bl, .int ca]))], [(ce, .inl (G.2.1 4, 5, .inr (.inr (.inr (.inr (refA 5 C))))))], [(wa, .inl (G.2.1 0, 5, .inl w))]]) rfl ?_
    refine V_open (i := 3) (by decide) ?_
    refine V_aload_n hC dX2_changeRing_14 0 rfl ?_
    refine V_calli hC (V_runV hC (rest := []) [] (k_X1_melt l G (C 3) (v 3)) [0] rfl (by decide) q529 q518 q519 q24 q520 ⟨by decide, by decide, rfl⟩ ⟨by decide, by decide⟩ (ci := 2) rfl (mem_at 0 0 rfl rfl) rfl (Nat.le_of_ble_eq_true rfl) ⟨by decide, by decide⟩ dX2_changeRing_15) (is := [0]) rfl [1, 2, 3, 4] (rs := [famX 5 3 (fun ι => chP G (C ι) (v ι)), [(k, .inr (3, [.ref ce, .ref wa, .ref wt, .int (nI n), .ref (O 0), .int fl, .int co, .int ri, .int no, .int fa, .int bl, .int ca]))], [(ce, .inl (G.2.1 4, 5, .inr (.inr (.inr (.inr (refA 5 C))))))], [(wa, .inl (G.2.1 0, 5, .inl w))]]) rfl (by decide) (by decide) ?_
    rintro _ _ ⟨rfl, rfl⟩
    refine V_bipush hC dX2_changeRing_18 (v := 6) (by decide) ?_
    refine V_icmp_lt hC dX2_changeRing_20 (tgt := 44) (by decide) (fun h4 => ?_) (fun h4 => ?_)
    · refine V_aload_n hC dX2_changeRing_44 1 rfl ?_
      refine V_get hC dX2_changeRing_45 inAX2 (mem_at 2 0 rfl rfl) rfl 1 (by decide) q135 rfl (v := .ref wa) rfl ?_
      refine V_iconst hC dX2_changeRing_48 (v := 3) (by decide) ?_
      refine V_iald hC dX2_changeRing_49 (mem_at 4 0 rfl rfl) (vin (by decide)) (x := 3) (by decide) ?_
      refine V_iconst hC dX2_changeRing_50 (v := 5) (by decide) ?_
      refine V_icmp_ge hC dX2_changeRing_51 (tgt := 76) (by decide) (fun h5 => ?_) (fun h5 => ?_)
      · refine V_close (i := 3) (g' := fun ι => chP G (C ι) (v ι)) (by decide) (rfl) (fun _ _ _ => rfl) ?_
        exact V_vret hC hQ hr [1, 2, 3, 0] (u := [[(k, .inr (3, [.ref ce, .ref wa, .ref wt, .int (nI n), .ref (O 0), .int fl, .int co, .int ri, .int no, .int fa, .int bl, .int ca]))], [(ce, .inl (G.2.1 4, 5, .inr (.inr (.inr (.inr (refA 5 C))))))], [(wa, .inl (G.2.1 0, 5, .inl w))], famW 5 (fun ι => chP G (C ι) (v ι))]) (by decide) rfl (by decide) (by decide) dX2_changeRing_76 (by simp only [kRing1, kRing2, kFall, if_neg h1, if_pos h4, if_pos h5])
      · refine V_aload_n hC dX2_changeRing_54 1 rfl ?_
        refine V_get hC dX2_changeRing_55 inAX2 (mem_at 2 0 rfl rfl) rfl 7 (by decide) q147 rfl (v := .int ri) rfl ?_
        refine V_if_le hC dX2_changeRing_58 (tgt := 76) (by decide) (fun h6 => ?_) (fun h6 => ?_)
        · refine V_close (i := 3) (g' := fun ι => chP G (C ι) (v ι)) (by decide) (rfl) (fun _ _ _ => rfl) ?_
          exact V_vret hC hQ hr [1, 2, 3, 0] (u := [[(k, .inr (3, [.ref ce, .ref wa, .ref wt, .int (nI n), .ref (O 0), .int fl, .int co, .int ri, .int no, .int fa, .int bl, .int ca]))], [(ce, .inl (G.2.1 4, 5, .inr (.inr (.inr (.inr (refA 5 C))))))], [(wa, .inl (G.2.1 0, 5, .inl w))], famW 5 (fun ι => chP G (C ι) (v ι))]) (by decide) rfl (by decide) (by decide) dX2_changeRing_76 (by simp only [kRing1, kRing2, kFall, if_neg h1, if_pos h4, if_neg h5, if_pos h6])
        · refine V_aload_n hC dX2_changeRing_61 1 rfl ?_
          refine V_iconst hC dX2_changeRing_62 (v := 0) (by decide) ?_
          refine V_put hC dX2_changeRing_63 inAX2 tyX2 tyX2_ok nmX2 2 0 rfl rfl rfl 7 (by decide) q147 rfl rfl (rfl) (rfl) (Nat.le_of_ble_eq_true rfl) (ps' := [chP G (C 3) (v 3), famX 5 3 (fun ι => chP G (C ι) (v ι)), [(k, .inr (3, [.ref ce, .ref wa, .ref wt, .int (nI n), .ref (O 0), .int fl, .int co, .int 0, .int no, .int fa, .int bl, .int ca]))], [(ce, .inl (G.2.1 4, 5, .inr (.inr (.inr (.inr (refA 5 C))))))], [(wa, .inl (G.2.1 0, 5, .inl w))]]) rfl ?_
          refine V_aload_n hC dX2_changeRing_66 1 rfl ?_
          refine V_dup hC dX2_changeRing_67 rfl ?_
          refine V_get hC dX2_changeRing_68 inAX2 (mem_at 2 0 rfl rfl) rfl 9 (by decide) q151 rfl (v := .int fa) rfl ?_
          refine V_iconst hC dX2_changeRing_71 (v := 1) (by decide) ?_
          refine V_iadd hC dX2_changeRing_72 ?_
          refine V_put hC dX2_changeRing_73 inAX2 tyX2 tyX2_ok nmX2 2 0 rfl rfl rfl 9 (by decide) q151 rfl rfl (rfl) (rfl) (Nat.le_of_ble_eq_true rfl) (ps' := [chP G (C 3) (v 3), famX 5 3 (fun ι => chP G (C ι) (v ι)), [(k, .inr (3, [.ref ce, .ref wa, .ref wt, .int (nI n), .ref (O 0), .int fl, .int co, .int 0, .int no, .int (fa + 1), .int bl, .int ca]))], [(ce, .inl (G.2.1 4, 5, .inr (.inr (.inr (.inr (refA 5 C))))))], [(wa, .inl (G.2.1 0, 5, .inl w))]]) rfl ?_
          refine V_close (i := 3) (g' := fun ι => chP G (C ι) (v ι)) (by decide) (rfl) (fun _ _ _ => rfl) ?_
          exact V_vret hC hQ hr [1, 2, 3, 0] (u := [[(k, .inr (3, [.ref ce, .ref wa, .ref wt, .int (nI n), .ref (O 0), .int fl, .int co, .int 0, .int no, .int (fa + 1), .int bl, .int ca]))], [(ce, .inl (G.2.1 4, 5, .inr (.inr (.inr (.inr (refA 5 C))))))], [(wa, .inl (G.2.1 0, 5, .inl w))], famW 5 (fun ι => chP G (C ι) (v ι))]) (by decide) rfl (by decide) (by decide) dX2_changeRing_76 (by simp only [kRing1, kRing2, kFall, if_neg h1, if_pos h4, if_neg h5, if_neg h6])
    · refine V_aload_n hC dX2_changeRing_23 1 rfl ?_
      refine V_get hC dX2_changeRing_24 inAX2 (mem_at 2 0 rfl rfl) rfl 1 (by decide) q135 rfl (v := .ref wa) rfl ?_
      refine V_iconst hC dX2_changeRing_27 (v := 3) (by decide) ?_
      refine V_iald hC dX2_changeRing_28 (mem_at 4 0 rfl rfl) (vin (by decide)) (x := 3) (by decide) ?_
      refine V_bipush hC dX2_changeRing_29 (v := 8) (by decide) ?_
      refine V_icmp_lt hC dX2_changeRing_31 (tgt := 44) (by decide) (fun h7 => ?_) (fun h7 => ?_)
      · refine V_aload_n hC dX2_changeRing_44 1 rfl ?_
        refine V_get hC dX2_changeRing_45 inAX2 (mem_at 2 0 rfl rfl) rfl 1 (by decide) q135 rfl (v := .ref wa) rfl ?_
        refine V_iconst hC dX2_changeRing_48 (v := 3) (by decide) ?_
        refine V_iald hC dX2_changeRing_49 (mem_at 4 0 rfl rfl) (vin (by decide)) (x := 3) (by decide) ?_
        refine V_iconst hC dX2_changeRing_50 (v := 5) (by decide) ?_
        refine V_icmp_ge hC dX2_changeRing_51 (tgt := 76) (by decide) (fun h8 => ?_) (fun h8 => ?_)
        · refine V_close (i := 3) (g' := fun ι => chP G (C ι) (v ι)) (by decide) (rfl) (fun _ _ _ => rfl) ?_
          exact V_vret hC hQ hr [1, 2, 3, 0] (u := [[(k, .inr (3, [.ref ce, .ref wa, .ref wt, .int (nI n), .ref (O 0), .int fl, .int co, .int ri, .int no, .int fa, .int bl, .int ca]))], [(ce, .inl (G.2.1 4, 5, .inr (.inr (.inr (.inr (refA 5 C))))))], [(wa, .inl (G.2.1 0, 5, .inl w))], famW 5 (fun ι => chP G (C ι) (v ι))]) (by decide) rfl (by decide) (by decide) dX2_changeRing_76 (by simp only [kRing1, kRing2, kFall, if_neg h1, if_neg h4, if_pos h7, if_pos h8])
        · refine V_aload_n hC dX2_changeRing_54 1 rfl ?_
          refine V_get hC dX2_changeRing_55 inAX2 (mem_at 2 0 rfl rfl) rfl 7 (by decide) q147 rfl (v := .int ri) rfl ?_
          refine V_if_le hC dX2_changeRing_58 (tgt := 76) (by decide) (fun h9 => ?_) (fun h9 => ?_)
          · refine V_close (i := 3) (g' := fun ι => chP G (C ι) (v ι)) (by decide) (rfl) (fun _ _ _ => rfl) ?_
            exact V_vret hC hQ hr [1, 2, 3, 0] (u := [[(k, .inr (3, [.ref ce, .ref wa, .ref wt, .int (nI n), .ref (O 0), .int fl, .int co, .int ri, .int no, .int fa, .int bl, .int ca]))], [(ce, .inl (G.2.1 4, 5, .inr (.inr (.inr (.inr (refA 5 C))))))], [(wa, .inl (G.2.1 0, 5, .inl w))], famW 5 (fun ι => chP G (C ι) (v ι))]) (by decide) rfl (by decide) (by decide) dX2_changeRing_76 (by simp only [kRing1, kRing2, kFall, if_neg h1, if_neg h4, if_pos h7, if_neg h8, if_pos h9])
          · refine V_aload_n hC dX2_changeRing_61 1 rfl ?_
            refine V_iconst hC dX2_changeRing_62 (v := 0) (by decide) ?_
            refine V_put hC dX2_changeRing_63 inAX2 tyX2 tyX2_ok nmX2 2 0 rfl rfl rfl 7 (by decide) q147 rfl rfl (rfl) (rfl) (Nat.le_of_ble_eq_true rfl) (ps' := [chP G (C 3) (v 3), famX 5 3 (fun ι => chP G (C ι) (v ι)), [(k, .inr (3, [.ref ce, .ref wa, .ref wt, .int (nI n), .ref (O 0), .int fl, .int co, .int 0, .int no, .int fa, .int bl, .int ca]))], [(ce, .inl (G.2.1 4, 5, .inr (.inr (.inr (.inr (refA 5 C))))))], [(wa, .inl (G.2.1 0, 5, .inl w))]]) rfl ?_
            refine V_aload_n hC dX2_changeRing_66 1 rfl ?_
            refine V_dup hC dX2_changeRing_67 rfl ?_
            refine V_get hC dX2_changeRing_68 inAX2 (mem_at 2 0 rfl rfl) rfl 9 (by decide) q151 rfl (v := .int fa) rfl ?_
            refine V_iconst hC dX2_changeRing_71 (v := 1) (by decide) ?_
            refine V_iadd hC dX2_changeRing_72 ?_
            refine V_put hC dX2_changeRing_73 inAX2 tyX2 tyX2_ok nmX2 2 0 rfl rfl rfl 9 (by decide) q151 rfl rfl (rfl) (rfl) (Nat.le_of_ble_eq_true rfl) (ps' := [chP G (C 3) (v 3), famX 5 3 (fun ι => chP G (C ι) (v ι)), [(k, .inr (3, [.ref ce, .ref wa, .ref wt, .int (nI n), .ref (O 0), .int fl, .int co, .int 0, .int no, .int (fa + 1), .int bl, .int ca]))], [(ce, .inl (G.2.1 4, 5, .inr (.inr (.inr (.inr (refA 5 C))))))], [(wa, .inl (G.2.1 0, 5, .inl w))]]) rfl ?_
            refine V_close (i := 3) (g' := fun ι => chP G (C ι) (v ι)) (by decide) (rfl) (fun _ _ _ => rfl) ?_
            exact V_vret hC hQ hr [1, 2, 3, 0] (u := [[(k, .inr (3, [.ref ce, .ref wa, .ref wt, .int (nI n), .ref (O 0), .int fl, .int co, .int 0, .int no, .int (fa + 1), .int bl, .int ca]))], [(ce, .inl (G.2.1 4, 5, .inr (.inr (.inr (.inr (refA 5 C))))))], [(wa, .inl (G.2.1 0, 5, .inl w))], famW 5 (fun ι => chP G (C ι) (v ι))]) (by decide) rfl (by decide) (by decide) dX2_changeRing_76 (by simp only [kRing1, kRing2, kFall, if_neg h1, if_neg h4, if_pos h7, if_neg h8, if_neg h9])
      · refine V_aload_n hC dX2_changeRing_34 1 rfl ?_
        refine V_dup hC dX2_changeRing_35 rfl ?_
        refine V_get hC dX2_changeRing_36 inAX2 (mem_at 2 0 rfl rfl) rfl 7 (by decide) q147 rfl (v := .int ri) rfl ?_
        refine V_iconst hC dX2_changeRing_39 (v := 1) (by decide) ?_
        refine V_iadd hC dX2_changeRing_40 ?_
        refine V_put hC dX2_changeRing_41 inAX2 tyX2 tyX2_ok nmX2 2 0 rfl rfl rfl 7 (by decide) q147 rfl rfl (rfl) (rfl) (Nat.le_of_ble_eq_true rfl) (ps' := [chP G (C 3) (v 3), famX 5 3 (fun ι => chP G (C ι) (v ι)), [(k, .inr (3, [.ref ce, .ref wa, .ref wt, .int (nI n), .ref (O 0), .int fl, .int co, .int (ri + 1), .int no, .int fa, .int bl, .int ca]))], [(ce, .inl (G.2.1 4, 5, .inr (.inr (.inr (.inr (refA 5 C))))))], [(wa, .inl (G.2.1 0, 5, .inl w))]]) rfl ?_
        refine V_aload_n hC dX2_changeRing_44 1 rfl ?_
        refine V_get hC dX2_changeRing_45 inAX2 (mem_at 2 0 rfl rfl) rfl 1 (by decide) q135 rfl (v := .ref wa) rfl ?_
        refine V_iconst hC dX2_changeRing_48 (v := 3) (by decide) ?_
        refine V_iald hC dX2_changeRing_49 (mem_at 4 0 rfl rfl) (vin (by decide)) (x := 3) (by decide) ?_
        refine V_iconst hC dX2_changeRing_50 (v := 5) (by decide) ?_
        refine V_icmp_ge hC dX2_changeRing_51 (tgt := 76) (by decide) (fun h10 => ?_) (fun h10 => ?_)
        · refine V_close (i := 3) (g' := fun ι => chP G (C ι) (v ι)) (by decide) (rfl) (fun _ _ _ => rfl) ?_
          exact V_vret hC hQ hr [1, 2, 3, 0] (u := [[(k, .inr (3, [.ref ce, .ref wa, .ref wt, .int (nI n), .ref (O 0), .int fl, .int co, .int (ri + 1), .int no, .int fa, .int bl, .int ca]))], [(ce, .inl (G.2.1 4, 5, .inr (.inr (.inr (.inr (refA 5 C))))))], [(wa, .inl (G.2.1 0, 5, .inl w))], famW 5 (fun ι => chP G (C ι) (v ι))]) (by decide) rfl (by decide) (by decide) dX2_changeRing_76 (by simp only [kRing1, kRing2, kFall, if_neg h1, if_neg h4, if_neg h7, if_pos h10])
        · refine V_aload_n hC dX2_changeRing_54 1 rfl ?_
          refine V_get hC dX2_changeRing_55 inAX2 (mem_at 2 0 rfl rfl) rfl 7 (by decide) q147 rfl (v := .int (ri + 1)) rfl ?_
          refine V_if_le hC dX2_changeRing_58 (tgt := 76) (by decide) (fun h11 => ?_) (fun h11 => ?_)
          · refine V_close (i := 3) (g' := fun ι => chP G (C ι) (v ι)) (by decide) (rfl) (fun _ _ _ => rfl) ?_
            exact V_vret hC hQ hr [1, 2, 3, 0] (u := [[(k, .inr (3, [.ref ce, .ref wa, .ref wt, .int (nI n), .ref (O 0), .int fl, .int co, .int (ri + 1), .int no, .int fa, .int bl, .int ca]))], [(ce, .inl (G.2.1 4, 5, .inr (.inr (.inr (.inr (refA 5 C))))))], [(wa, .inl (G.2.1 0, 5, .inl w))], famW 5 (fun ι => chP G (C ι) (v ι))]) (by decide) rfl (by decide) (by decide) dX2_changeRing_76 (by simp only [kRing1, kRing2, kFall, if_neg h1, if_neg h4, if_neg h7, if_neg h10, if_pos h11])
          · refine V_aload_n hC dX2_changeRing_61 1 rfl ?_
            refine V_iconst hC dX2_changeRing_62 (v := 0) (by decide) ?_
            refine V_put hC dX2_changeRing_63 inAX2 tyX2 tyX2_ok nmX2 2 0 rfl rfl rfl 7 (by decide) q147 rfl rfl (rfl) (rfl) (Nat.le_of_ble_eq_true rfl) (ps' := [chP G (C 3) (v 3), famX 5 3 (fun ι => chP G (C ι) (v ι)), [(k, .inr (3, [.ref ce, .ref wa, .ref wt, .int (nI n), .ref (O 0), .int fl, .int co, .int 0, .int no, .int fa, .int bl, .int ca]))], [(ce, .inl (G.2.1 4, 5, .inr (.inr (.inr (.inr (refA 5 C))))))], [(wa, .inl (G.2.1 0, 5, .inl w))]]) rfl ?_
            refine V_aload_n hC dX2_changeRing_66 1 rfl ?_
            refine V_dup hC dX2_changeRing_67 rfl ?_
            refine V_get hC dX2_changeRing_68 inAX2 (mem_at 2 0 rfl rfl) rfl 9 (by decide) q151 rfl (v := .int fa) rfl ?_
            refine V_iconst hC dX2_changeRing_71 (v := 1) (by decide) ?_
            refine V_iadd hC dX2_changeRing_72 ?_
            refine V_put hC dX2_changeRing_73 inAX2 tyX2 tyX2_ok nmX2 2 0 rfl rfl rfl 9 (by decide) q151 rfl rfl (rfl) (rfl) (Nat.le_of_ble_eq_true rfl) (ps' := [chP G (C 3) (v 3), famX 5 3 (fun ι => chP G (C ι) (v ι)), [(k, .inr (3, [.ref ce, .ref wa, .ref wt, .int (nI n), .ref (O 0), .int fl, .int co, .int 0, .int no, .int (fa + 1), .int bl, .int ca]))], [(ce, .inl (G.2.1 4, 5, .inr (.inr (.inr (.inr (refA 5 C))))))], [(wa, .inl (G.2.1 0, 5, .inl w))]]) rfl ?_
            refine V_close (i := 3) (g' := fun ι => chP G (C ι) (v ι)) (by decide) (rfl) (fun _ _ _ => rfl) ?_
            exact V_vret hC hQ hr [1, 2, 3, 0] (u := [[(k, .inr (3, [.ref ce, .ref wa, .ref wt, .int (nI n), .ref (O 0), .int fl, .int co, .int 0, .int no, .int (fa + 1), .int bl, .int ca]))], [(ce, .inl (G.2.1 4, 5, .inr (.inr (.inr (.inr (refA 5 C))))))], [(wa, .inl (G.2.1 0, 5, .inl w))], famW 5 (fun ι => chP G (C ι) (v ι))]) (by decide) rfl (by decide) (by decide) dX2_changeRing_76 (by simp only [kRing1, kRing2, kFall, if_neg h1, if_neg h4, if_neg h7, if_neg h10, if_neg h11])
set_option maxHeartbeats 4000000 in
set_option maxRecDepth 100000 in
/-- ClinkerWorks$Kiln.addWaiting -/
theorem c_X2_addWaiting (l : Launch) (G : VG) (k ce wa wt n : Nat) (O : Nat → Nat) (fl co ri no fa bl ca : Int32) (W : Nat → Nat → Nat) (x : Nat → CV) (b bm : Nat) (h : Nat → Int32) (hn : n < 3) : Mr l G yX2_addWaiting cX2_addWaiting 3 (.object "ClinkerWorks$Charge") 2 44 0 0 [.ref k, .ref b] [[(k, .inr (3, [.ref ce, .ref wa, .ref wt, .int (nI n), .ref (O 0), .int fl, .int co, .int ri, .int no, .int fa, .int bl, .int ca]))], [(wt, .inl (G.2.1 4, 3, .inr (.inr (.inr (.inr (refA 3 W))))))], famW 3 (fun ι => chP G (W ι) (x ι)), [(b, .inr (5, [.ref bm]))], [(bm, .inl (G.2.1 0, 4, .inl h))]] (fun r u => r = (W n) 0 ∧ u = [[(k, .inr (3, [.ref ce, .ref wa, .ref wt, .int (nI (n + 1)), .ref (O 0), .int fl, .int co, .int ri, .int no, .int fa, .int bl, .int ca]))], [(wt, .inl (G.2.1 4, 3, .inr (.inr (.inr (.inr (refA 3 W))))))], famW 3 (fun ι => chP G (W ι) ((va_up x n (chBegin (x n) h)) ι)), [(b, .inr (5, [.ref bm]))], [(bm, .inl (G.2.1 0, 4, .inl h))]]) := by
  refine Mr_of (by decide) (Nat.le_of_ble_eq_true rfl) (fun pP eE sS mM aA bB tT cC AA QQ hC hr hnm hQ => ?_)
  refine V_aload_n hC dX2_addWaiting_0 0 rfl ?_
  refine V_get hC dX2_addWaiting_1 inAX2 (mem_at 0 0 rfl rfl) rfl 3 (by decide) q139 rfl (v := .int (nI n)) rfl ?_
  refine V_iconst hC dX2_addWaiting_4 (v := 2) (by decide) ?_
  refine V_mmin hC q456 q424 q35 q425 (by decide) (Nat.le_of_ble_eq_true rfl) (by decide) (by decide) dX2_addWaiting_5 ?_
  refine V_eqi (y := nI n) (if_neg (show ¬ nI 2 < nI n from nI_nlt (by omega) (by omega))) ?_
  refine V_istore_n hC dX2_addWaiting_8 (L' := [(2, .int (nI n)), (0, .ref k), (1, .ref b)]) (by decide) rfl ?_
  refine V_aload_n hC dX2_addWaiting_9 1 rfl ?_
  refine V_get hC dX2_addWaiting_10 inAX2 (mem_at 0 0 rfl rfl) rfl 2 (by decide) q137 rfl (v := .ref wt) rfl ?_
  refine V_iload_n hC dX2_addWaiting_13 0 rfl ?_
  refine V_aald hC dX2_addWaiting_14 4 rfl (mem_at 1 0 rfl rfl) (vp_in_nI (by omega) (by omega)) (x := n) (nI_clamp (by omega)) (b := (W n) 0) (refA_at (by omega)) ?_
  refine V_aload_n hC dX2_addWaiting_15 2 rfl ?_
  refine V_sub [2, 0, 1, 3, 4] (by decide) (u := [famW 3 (fun ι => chP G (W ι) (x ι)), [(k, .inr (3, [.ref ce, .ref wa, .ref wt, .int (nI n), .ref (O 0), .int fl, .int co, .int ri, .int no, .int fa, .int bl, .int ca]))], [(wt, .inl (G.2.1 4, 3, .inr (.inr (.inr (.inr (refA 3 W))))))], [(b, .inr (5, [.ref bm]))], [(bm, .inl (G.2.1 0, 4, .inl h))]]) rfl ?_
  refine V_open (i := n) (hn) ?_
  refine V_callv hC (V_runV hC (rest := []) [.ref b] (k_X1_begin l G (W n) (x n) b bm h) [0, 4, 5] rfl (by decide) q457 q458 q459 q24 q460 ⟨by decide, by decide, rfl⟩ ⟨by decide, by decide⟩ (ci := 2) rfl (mem_at 0 0 rfl rfl) rfl (Nat.le_of_ble_eq_true rfl) ⟨by decide, by decide⟩ dX2_addWaiting_16) (is := [0, 4, 5]) rfl [1, 2, 3] (rs := [famX 3 n (fun ι => chP G (W ι) (x ι)), [(k, .inr (3, [.ref ce, .ref wa, .ref wt, .int (nI n), .ref (O 0), .int fl, .int co, .int ri, .int no, .int fa, .int bl, .int ca]))], [(wt, .inl (G.2.1 4, 3, .inr (.inr (.inr (.inr (refA 3 W))))))]]) rfl (by decide) (by decide) ?_
  rintro _ rfl
  refine V_aload_n hC dX2_addWaiting_19 1 rfl ?_
  refine V_iload_n hC dX2_addWaiting_20 0 rfl ?_
  refine V_iconst hC dX2_addWaiting_21 (v := 1) (by decide) ?_
  refine V_iadd hC dX2_addWaiting_22 ?_
  refine V_eqi (y := nI (n + 1)) (nI_1 n) ?_
  refine V_put hC dX2_addWaiting_23 inAX2 tyX2 tyX2_ok nmX2 4 0 rfl rfl rfl 3 (by decide) q139 rfl rfl (rfl) (rfl) (Nat.le_of_ble_eq_true rfl) (ps' := [chP G (W n) (chBegin (x n) h), [(b, .inr (5, [.ref bm]))], [(bm, .inl (G.2.1 0, 4, .inl h))], famX 3 n (fun ι => chP G (W ι) (x ι)), [(k, .inr (3, [.ref ce, .ref wa, .ref wt, .int (nI (n + 1)), .ref (O 0), .int fl, .int co, .int ri, .int no, .int fa, .int bl, .int ca]))], [(wt, .inl (G.2.1 4, 3, .inr (.inr (.inr (.inr (refA 3 W))))))]]) rfl ?_
  refine V_aload_n hC dX2_addWaiting_26 1 rfl ?_
  refine V_get hC dX2_addWaiting_27 inAX2 (mem_at 4 0 rfl rfl) rfl 2 (by decide) q137 rfl (v := .ref wt) rfl ?_
  refine V_iload_n hC dX2_addWaiting_30 0 rfl ?_
  refine V_aald hC dX2_addWaiting_31 4 rfl (mem_at 5 0 rfl rfl) (vp_in_nI (by omega) (by omega)) (x := n) (nI_clamp (by omega)) (b := (W n) 0) (refA_at (by omega)) ?_
  refine V_sub [0, 3, 1, 2, 4, 5] (by decide) (u := [chP G (W n) (chBegin (x n) h), famX 3 n (fun ι => chP G (W ι) (x ι)), [(b, .inr (5, [.ref bm]))], [(bm, .inl (G.2.1 0, 4, .inl h))], [(k, .inr (3, [.ref ce, .ref wa, .ref wt, .int (nI (n + 1)), .ref (O 0), .int fl, .int co, .int ri, .int no, .int fa, .int bl, .int ca]))], [(wt, .inl (G.2.1 4, 3, .inr (.inr (.inr (.inr (refA 3 W))))))]]) rfl ?_
  refine V_close (i := n) (g' := fun ι => chP G (W ι) ((va_up x n (chBegin (x n) h)) ι)) (hn) (by simp [va_up]) (fun j _ hne => by simp [va_up, hne]) ?_
  exact V_aret hC hQ hr (Or.inl ⟨_, rfl⟩) [3, 4, 0, 1, 2] (u := [[(k, .inr (3, [.ref ce, .ref wa, .ref wt, .int (nI (n + 1)), .ref (O 0), .int fl, .int co, .int ri, .int no, .int fa, .int bl, .int ca]))], [(wt, .inl (G.2.1 4, 3, .inr (.inr (.inr (.inr (refA 3 W))))))], famW 3 (fun ι => chP G (W ι) ((va_up x n (chBegin (x n) h)) ι)), [(b, .inr (5, [.ref bm]))], [(bm, .inl (G.2.1 0, 4, .inl h))]]) (by decide) rfl (by decide) (by decide) dX2_addWaiting_32 (⟨rfl, rfl⟩)
