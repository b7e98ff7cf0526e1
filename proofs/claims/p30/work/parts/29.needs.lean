theorem ixB_or {x n : Int32} : ixB x n = 0 ∨ ixB x n = 1 := by unfold ixB; split; exact Or.inl rfl; split; exact Or.inl rfl; exact Or.inr rfl
set_option maxHeartbeats 4000000 in
set_option maxRecDepth 100000 in
/-- ClinkerWorks.needIndex -/
theorem c_X8_needIndex (l : Launch) (hl0 : l.stackTraces = false) (G : VG) (x n : Int32) : Xv l G yX8_needIndex cX8_needIndex 2 6 82 1 6 [.int x, .int n] [] (fun u => ixB x n = 1 ∧ u = []) (fun E => E = "java/lang/IndexOutOfBoundsException" ∧ ixB x n = 0) := by
  refine Xv_of (by decide) (Nat.le_of_ble_eq_true rfl) (fun pP eE sS mM aA bB tT cC AA QQ hC hr hT hQ => ?_)
  refine V_iload_n hC dX8_needIndex_0 0 rfl ?_
  refine V_iload_n hC dX8_needIndex_1 1 rfl ?_
  refine V_calli hC (V_runS hC (rest := []) [.int x, .int n] (c_X8_isIndex l G x n) [] rfl (by decide) q434 q435 q20 q436 ⟨by decide, by decide, rfl⟩ ⟨by decide, by decide⟩ rfl (Nat.le_of_ble_eq_true rfl) ⟨by decide, by decide⟩ dX8_needIndex_2) (is := []) rfl [] (rs := []) rfl (by decide) (by decide) ?_
  rintro _ _ ⟨rfl, rfl⟩
  refine V_if_ne hC dX8_needIndex_5 (tgt := 19) (by decide) (fun h1 => ?_) (fun h1 => ?_)
  · have hb : ixB x n = 1 := ixB_or.resolve_left h1
    exact V_xvret hC hQ hr [] (u := []) (by decide) rfl (by decide) (by decide) dX8_needIndex_19 (⟨hb, rfl⟩)
  · have hb : ixB x n = 0 := by first | exact h1 | exact Decidable.not_not.mp h1
    exact V_throwSW hC hT hl0 hQ (cls := "java/lang/IndexOutOfBoundsException") (text := "there is no such one") (by decide +kernel) q545 q36 (by decide +kernel) excW_ix (by decide +kernel) dX8_needIndex_8 dX8_needIndex_11 dX8_needIndex_12 dX8_needIndex_15 dX8_needIndex_18 (by decide) (Nat.le_of_ble_eq_true rfl) (by decide) (by decide) (by decide) (by decide) [] (by decide) rfl (⟨rfl, hb⟩)
set_option maxHeartbeats 4000000 in
set_option maxRecDepth 100000 in
/-- ClinkerWorks.needArgument -/
theorem c_X8_needArgument (l : Launch) (hl0 : l.stackTraces = false) (G : VG) (x a b : Int32) : Xv l G yX8_needArgument cX8_needArgument 3 6 82 1 6 [.int x, .int a, .int b] [] (fun u => (a ≤ x ∧ x ≤ b) ∧ u = []) (fun E => E = "java/lang/IllegalArgumentException" ∧ ¬ (a ≤ x ∧ x ≤ b)) := by
  refine Xv_of (by decide) (Nat.le_of_ble_eq_true rfl) (fun pP eE sS mM aA bB tT cC AA QQ hC hr hT hQ => ?_)
  refine V_iload_n hC dX8_needArgument_0 0 rfl ?_
  refine V_iload_n hC dX8_needArgument_1 1 rfl ?_
  refine V_icmp_lt hC dX8_needArgument_2 (tgt := 10) (by decide) (fun h1 => ?_) (fun h1 => ?_)
  · exact V_throwSW hC hT hl0 hQ (cls := "java/lang/IllegalArgumentException") (text := "a number is outside its bounds") (by decide +kernel) q322 q33 (by decide +kernel) excW_ia (by decide +kernel) dX8_needArgument_10 dX8_needArgument_13 dX8_needArgument_14 dX8_needArgument_17 dX8_needArgument_20 (by decide) (Nat.le_of_ble_eq_true rfl) (by decide) (by decide) (by decide) (by decide) [] (by decide) rfl (⟨rfl, fun hh => by first | exact (i32_nlt hh.1) h1 | exact h2 hh.2⟩)
  · refine V_iload_n hC dX8_needArgument_5 0 rfl ?_
    refine V_iload_n hC dX8_needArgument_6 2 rfl ?_
    refine V_icmp_le hC dX8_needArgument_7 (tgt := 21) (by decide) (fun h2 => ?_) (fun h2 => ?_)
    · exact V_xvret hC hQ hr [] (u := []) (by decide) rfl (by decide) (by decide) dX8_needArgument_21 (⟨⟨i32_le h1, h2⟩, rfl⟩)
    · exact V_throwSW hC hT hl0 hQ (cls := "java/lang/IllegalArgumentException") (text := "a number is outside its bounds") (by decide +kernel) q322 q33 (by decide +kernel) excW_ia (by decide +kernel) dX8_needArgument_10 dX8_needArgument_13 dX8_needArgument_14 dX8_needArgument_17 dX8_needArgument_20 (by decide) (Nat.le_of_ble_eq_true rfl) (by decide) (by decide) (by decide) (by decide) [] (by decide) rfl (⟨rfl, fun hh => by first | exact (i32_nlt hh.1) h1 | exact h2 hh.2⟩)
set_option maxHeartbeats 4000000 in
set_option maxRecDepth 100000 in
/-- ClinkerWorks.fold -/
theorem c_X8_fold (l : Launch) (G : VG) (d v : Int64) : Ml l G yX8_fold cX8_fold 4 0 0 0 0 [.long d, .long v] [] (fun r u => r = d * 31 + v ∧ u = []) := by
  refine Ml_of (by decide) (Nat.le_of_ble_eq_true rfl) (fun pP eE sS mM aA bB tT cC AA QQ hC hr hnm hQ => ?_)
  refine V_lload_n hC dX8_fold_0 0 rfl ?_
  refine V_ldc2 hC dX8_fold_1 q635 ?_
  refine V_lmul hC dX8_fold_4 ?_
  refine V_lload_n hC dX8_fold_5 1 rfl ?_
  refine V_ladd hC dX8_fold_6 ?_
  exact V_lret hC hQ hr [] (u := []) (by decide) rfl (by decide) (by decide) dX8_fold_7 (⟨rfl, rfl⟩)
set_option maxHeartbeats 4000000 in
set_option maxRecDepth 100000 in
/-- ClinkerWorks.asNumber -/
theorem c_X8_asNumber (l : Launch) (G : VG) (x : Int32) (hx : x = 0 ∨ x = 1) : Mi l G yX8_asNumber cX8_asNumber 1 .int 0 0 0 0 [.int x] [] (fun r u => r = x ∧ u = []) := by
  refine Mi_of (by decide) (Nat.le_of_ble_eq_true rfl) (fun pP eE sS mM aA bB tT cC AA QQ hC hr hnm hQ => ?_)
  refine V_iload_n hC dX8_asNumber_0 0 rfl ?_
  refine V_if_eq hC dX8_asNumber_1 (tgt := 8) (by decide) (fun h1 => ?_) (fun h1 => ?_)
  · refine V_iconst hC dX8_asNumber_8 (v := 0) (by decide) ?_
    exact V_iret hC hQ hr [] (u := []) (by decide) rfl (by decide) (by decide) dX8_asNumber_9 (⟨by rcases hx with rfl | rfl <;> simp_all, rfl⟩)
  · refine V_iconst hC dX8_asNumber_4 (v := 1) (by decide) ?_
    refine V_goto hC dX8_asNumber_5 (tgt := 9) (by decide) ?_
    exact V_iret hC hQ hr [] (u := []) (by decide) rfl (by decide) (by decide) dX8_asNumber_9 (⟨by rcases hx with rfl | rfl <;> simp_all, rfl⟩)
