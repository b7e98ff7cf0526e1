/-! ===== the law's own class: telling blocks, blasting ===== -/
def rw5 (a b c d e : Int32) : Nat → Int32 := upd (upd (upd (upd (upd (fun _ => 0) 0 a) 1 b) 2 c) 3 d) 4 e
theorem flat_join {a b : va_W} {r : List va_W} : (a :: b :: r).flatten = ((a ++ b) :: r).flatten := by simp
/-- the parts of a block in the layers -/
def lsN (f : Nat → Int32) (p : Nat → Nat) (i : Nat) : Nat → Nat
  | 0 => 0
  | j + 1 => lsN f p i j + (if f j = nI i then p j else 0)
/-- known, if there is a layer of it -/
def knB (f : Nat → Int32) (i : Nat) : Nat → Int32
  | 0 => 0
  | j + 1 => if f j = nI i then 1 else knB f i j
theorem lsN_c {f f' : Nat → Int32} {p p' : Nat → Nat} {i : Nat} : ∀ {n : Nat}, (∀ j, j < n → f j = f' j ∧ p j = p' j) → lsN f p i n = lsN f' p' i n
  | 0, _ => rfl
  | n + 1, h => by
    show lsN f p i n + (if f n = nI i then p n else 0) = lsN f' p' i n + (if f' n = nI i then p' n else 0)
    rw [lsN_c (fun j hj => h j (by omega)), (h n (by omega)).1, (h n (by omega)).2]
theorem knB_c {f f' : Nat → Int32} {i : Nat} : ∀ {n : Nat}, (∀ j, j < n → f j = f' j) → knB f i n = knB f' i n
  | 0, _ => rfl
  | n + 1, h => by
    show (if f n = nI i then (1 : Int32) else knB f i n) = if f' n = nI i then (1 : Int32) else knB f' i n
    rw [knB_c (fun j hj => h j (by omega)), h n (by omega)]
theorem knB_01 {f : Nat → Int32} {i : Nat} : ∀ n, knB f i n = 0 ∨ knB f i n = 1
  | 0 => Or.inl rfl
  | n + 1 => by
    show (if f n = nI i then (1 : Int32) else knB f i n) = 0 ∨ (if f n = nI i then (1 : Int32) else knB f i n) = 1
    split
    · exact Or.inr rfl
    · exact knB_01 n
theorem knB_1 {f : Nat → Int32} {i j : Nat} (he : f j = nI i) : ∀ {n : Nat}, j < n → knB f i n = 1
  | 0, h => absurd h (Nat.not_lt_zero _)
  | n + 1, h => by
    show (if f n = nI i then (1 : Int32) else knB f i n) = 1
    by_cases e : j = n
    · rw [if_pos (e ▸ he)]
    · split
      · rfl
      · exact knB_1 he (by omega)
/-- what the law's own numbers say of the works as it blasts: so many times at most -/
def tB (k : Nat) (st p : Nat → Nat) (bz : Nat → BV) (n : Nat) (f g : Nat → Int32) (bl lf : Nat → Nat → Int32) : Prop :=
  n ≤ k ∧ (∀ i, i < 4 → bl i 0 = nI (st i) ∧ (bz i).1 = nI (st i) ∧ st i + lsN f p i n ≤ 160 ∧ (bz i).2.1 = knB f i n) ∧ (∀ j, j < n → lf j 0 = f j ∧ lf j 1 = g j ∧ (∃ v : Nat, v < 4 ∧ f j = nI v) ∧ g j = nI (p j) ∧ 1 ≤ p j ∧ p j ≤ 34) ∧ ∀ i, i < 6 → (bz i).2.1 = 0 ∨ (bz i).2.1 = 1
/-- the oxides, as they were told -/
def tX (bz : Nat → BV) (bl : Nat → Nat → Int32) : Prop := ∀ i, i < 4 → ∀ k, k < 4 → bl i (k + 1) = (bz i).2.2 k ∧ ∃ w : Nat, w ≤ 9 ∧ bl i (k + 1) = nI w
theorem tB_ok {k nl : Nat} {st p : Nat → Nat} {bz : Nat → BV} {n : Nat} {f g : Nat → Int32} {bl lf : Nat → Nat → Int32} {S : KS} (h : tB k st p bz n f g bl lf) (hk : k ≤ 8) (hw : kwf S) (hnl : nl ≤ 12) : wOk 4 bz n f g S nl := ⟨by omega, by have := h.1; omega, fun j hj => (h.2.2.1 j hj).2.2.1, h.2.2.2, hw, hnl⟩
theorem tB_up {k : Nat} {st p : Nat → Nat} {bz : Nat → BV} {n : Nat} {f g : Nat → Int32} {bl lf : Nat → Nat → Int32} (h : tB k st p bz n f g bl lf) : tB (k + 1) st p bz n f g bl lf := ⟨by have := h.1; omega, h.2⟩
theorem tB_put {k i px : Nat} {st p : Nat → Nat} {bz : Nat → BV} {n : Nat} {f g : Nat → Int32} {bl lf : Nat → Nat → Int32} (h : tB k st p bz n f g bl lf) (hi : i < 4) (hpx : px ≤ 34) (h0 : ¬ min px (st i) = 0) : tB (k + 1) (va_up st i (st i - min px (st i))) (va_up p n (min px (st i))) (va_up bz i ((bz i).1 - mn (nI px) (bz i).1, 1, (bz i).2.2)) (n + 1) (upd f n (nI i)) (upd g n (mn (nI px) (bz i).1)) (va_up bl i (upd (bl i) 0 (nI (st i - min px (st i))))) (va_up lf n (upd (upd (fun _ => 0) 0 (nI i)) 1 (nI (min px (st i))))) := by
  obtain ⟨h1, h2, h3, h4⟩ := h
  have hs : st i ≤ 160 := by have := (h2 i hi).2.2.1; omega
  have em : mn (nI px) (bz i).1 = nI (min px (st i)) := by rw [(h2 i hi).2.1, mn_nI]
  have ef : ∀ j, j < n → (upd f n (nI i)) j = f j := fun j hj => pk_un (by omega)
  have ep : ∀ j, j < n → (va_up p n (min px (st i))) j = p j := fun j hj => va_up_ne _ _ (by omega)
  have el : ∀ a, lsN (upd f n (nI i)) (va_up p n (min px (st i))) a (n + 1) = lsN f p a n + (if nI i = nI a then min px (st i) else 0) := fun a => by
    show lsN (upd f n (nI i)) (va_up p n (min px (st i))) a n + (if upd f n (nI i) n = nI a then va_up p n (min px (st i)) n else 0) = _
    rw [lsN_c (fun j hj => ⟨ef j hj, ep j hj⟩), pk_us, va_up_eq]
  have ek : ∀ a, knB (upd f n (nI i)) a (n + 1) = if nI i = nI a then 1 else knB f a n := fun a => by
    show (if upd f n (nI i) n = nI a then (1 : Int32) else knB (upd f n (nI i)) a n) = _
    rw [knB_c ef, pk_us]
  rw [em]
  refine ⟨by omega, fun a ha => ?_, fun j hj => ?_, fun a ha => ?_⟩
  · obtain ⟨g1, g2, g3, g4⟩ := h2 a ha
    rw [el, ek]
    by_cases e : a = i
    · rw [e] at g1 g2 g3 g4
      rw [e, va_up_eq, va_up_eq, va_up_eq, if_pos rfl, if_pos rfl, pk_us]
      refine ⟨rfl, ?_, by omega, rfl⟩
      show (bz i).1 - nI (min px (st i)) = nI (st i - min px (st i))
      rw [g2, pk_sub (by omega)]
    · rw [va_up_ne _ _ e, va_up_ne _ _ e, va_up_ne _ _ e, if_neg (fun q => e (nI_inj q).symm), if_neg (fun q => e (nI_inj q).symm)]
      exact ⟨g1, g2, by omega, g4⟩
  · by_cases e : j = n
    · have e1 : upd f n (nI i) n = nI i := pk_us
      have e2 : upd g n (nI (min px (st i))) n = nI (min px (st i)) := pk_us
      rw [e, va_up_eq, va_up_eq, e1, e2]
      refine ⟨rfl, rfl, ⟨i, hi, rfl⟩, rfl, by omega, by omega⟩
    · obtain ⟨g1, g2, g3, g4, g5, g6⟩ := h3 j (by omega)
      rw [va_up_ne _ _ e, va_up_ne _ _ e, pk_un e, pk_un e]
      exact ⟨g1, g2, g3, g4, g5, g6⟩
  · by_cases e : a = i
    · rw [e, va_up_eq]
      exact Or.inr rfl
    · rw [va_up_ne _ _ e]
      exact h4 a ha
theorem tX_put {i : Nat} {x y : Int32} {bz : Nat → BV} {bl : Nat → Nat → Int32} {w : Int32} (h : tX bz bl) : tX (va_up bz i (x, y, (bz i).2.2)) (va_up bl i (upd (bl i) 0 w)) := by
  intro a ha k hk
  by_cases e : a = i
  · rw [e] at ha ⊢
    rw [va_up_eq, va_up_eq, pk_un (by omega)]
    exact h i ha k hk
  · rw [va_up_ne _ _ e, va_up_ne _ _ e]
    exact h a ha k hk
set_option maxHeartbeats 4000000 in
set_option maxRecDepth 100000 in
/-- ClinkerWorksLaw.part -/
theorem c_L_part (l : Launch) (G : VG) (x y : Int32) : Mi l G yL_part cL_part 2 .int 0 0 0 0 [.int x, .int y] [] (fun r u => r = mxQuot x y ∧ u = []) := by
  refine Mi_of (by decide) (Nat.le_of_ble_eq_true rfl) (fun pP eE sS mM aA bB tT cC AA QQ hC hr hnm hQ => ?_)
  refine V_iload_n hC dL_part_0 1 rfl ?_
  refine V_if_ne hC dL_part_1 (tgt := 10) (by decide) (fun h1 => ?_) (fun h1 => ?_)
  · have hy := h1
    refine V_iload_n hC dL_part_10 0 rfl ?_
    refine V_iload_n hC dL_part_11 1 rfl ?_
    refine V_idiv hC dL_part_12 (hy) ?_
    exact V_iret hC hQ hr [] (u := []) (by decide) rfl (by decide) (by decide) dL_part_13 (⟨by simp [mxQuot, hy], rfl⟩)
  · have hy := h1
    refine V_sipush hC dL_part_4 (v := 999) (by decide) ?_
    refine V_goto hC dL_part_7 (tgt := 13) (by decide) ?_
    exact V_iret hC hQ hr [] (u := []) (by decide) rfl (by decide) (by decide) dL_part_13 (⟨by simp [mxQuot, hy], rfl⟩)
set_option maxHeartbeats 4000000 in
set_option maxRecDepth 100000 in
/-- ClinkerWorksLaw.modulus -/
theorem c_L_modulus (l : Launch) (G : VG) (o : Nat) (f : Nat → Int32) : Mi l G yL_modulus cL_modulus 5 .int 1 21 0 0 [.ref o, .int 0] [[(o, .inl (G.2.1 0, 4, .inl f))]] (fun r u => r = mxSat f ∧ u = [[(o, .inl (G.2.1 0, 4, .inl f))]]) := by
  refine Mi_of (by decide) (Nat.le_of_ble_eq_true rfl) (fun pP eE sS mM aA bB tT cC AA QQ hC hr hnm hQ => ?_)
  refine V_bipush hC dL_modulus_0 (v := 100) (by decide) ?_
  refine V_aload_n hC dL_modulus_2 0 rfl ?_
  refine V_iconst hC dL_modulus_3 (v := 0) (by decide) ?_
  refine V_iald hC dL_modulus_4 (mem_at 0 0 rfl rfl) (vin (by decide)) (x := 0) (by decide) ?_
  refine V_imul hC dL_modulus_5 ?_
  refine V_iconst hC dL_modulus_6 (v := 3) (by decide) ?_
  refine V_aload_n hC dL_modulus_7 0 rfl ?_
  refine V_iconst hC dL_modulus_8 (v := 1) (by decide) ?_
  refine V_iald hC dL_modulus_9 (mem_at 0 0 rfl rfl) (vin (by decide)) (x := 1) (by decide) ?_
  refine V_imul hC dL_modulus_10 ?_
  refine V_iconst hC dL_modulus_11 (v := 2) (by decide) ?_
  refine V_aload_n hC dL_modulus_12 0 rfl ?_
  refine V_iconst hC dL_modulus_13 (v := 2) (by decide) ?_
  refine V_iald hC dL_modulus_14 (mem_at 0 0 rfl rfl) (vin (by decide)) (x := 2) (by decide) ?_
  refine V_imul hC dL_modulus_15 ?_
  refine V_iadd hC dL_modulus_16 ?_
  refine V_aload_n hC dL_modulus_17 0 rfl ?_
  refine V_iconst hC dL_modulus_18 (v := 3) (by decide) ?_
  refine V_iald hC dL_modulus_19 (mem_at 0 0 rfl rfl) (vin (by decide)) (x := 3) (by decide) ?_
  refine V_iadd hC dL_modulus_20 ?_
  refine V_calli hC (V_runS hC (rest := []) [.int (100 * (f 0)), .int (((3 * (f 1)) + (2 * (f 2))) + (f 3))] (c_L_part l G (100 * (f 0)) (((3 * (f 1)) + (2 * (f 2))) + (f 3))) [] rfl (by decide) q783 q784 q18 q785 ⟨by decide, by decide, rfl⟩ ⟨by decide, by decide⟩ rfl (Nat.le_of_ble_eq_true rfl) ⟨by decide, by decide⟩ dL_modulus_21) (is := []) rfl [0] (rs := [[(o, .inl (G.2.1 0, 4, .inl f))]]) rfl (by decide) (by decide) ?_
  rintro _ _ ⟨rfl, rfl⟩
  refine V_istore_n hC dL_modulus_24 (L' := [(2, .int (mxQuot (100 * (f 0)) (((3 * (f 1)) + (2 * (f 2))) + (f 3)))), (0, .ref o), (1, .int 0)]) (by decide) rfl ?_
  refine V_bipush hC dL_modulus_25 (v := 10) (by decide) ?_
  refine V_aload_n hC dL_modulus_27 1 rfl ?_
  refine V_iconst hC dL_modulus_28 (v := 1) (by decide) ?_
  refine V_iald hC dL_modulus_29 (mem_at 0 0 rfl rfl) (vin (by decide)) (x := 1) (by decide) ?_
  refine V_imul hC dL_modulus_30 ?_
  refine V_aload_n hC dL_modulus_31 1 rfl ?_
  refine V_iconst hC dL_modulus_32 (v := 2) (by decide) ?_
  refine V_iald hC dL_modulus_33 (mem_at 0 0 rfl rfl) (vin (by decide)) (x := 2) (by decide) ?_
  refine V_aload_n hC dL_modulus_34 1 rfl ?_
  refine V_iconst hC dL_modulus_35 (v := 3) (by decide) ?_
  refine V_iald hC dL_modulus_36 (mem_at 0 0 rfl rfl) (vin (by decide)) (x := 3) (by decide) ?_
  refine V_iadd hC dL_modulus_37 ?_
  refine V_calli hC (V_runS hC (rest := []) [.int (10 * (f 1)), .int ((f 2) + (f 3))] (c_L_part l G (10 * (f 1)) ((f 2) + (f 3))) [] rfl (by decide) q783 q784 q18 q785 ⟨by decide, by decide, rfl⟩ ⟨by decide, by decide⟩ rfl (Nat.le_of_ble_eq_true rfl) ⟨by decide, by decide⟩ dL_modulus_38) (is := []) rfl [0] (rs := [[(o, .inl (G.2.1 0, 4, .inl f))]]) rfl (by decide) (by decide) ?_
  rintro _ _ ⟨rfl, rfl⟩
  refine V_istore_n hC dL_modulus_41 (L' := [(3, .int (mxQuot (10 * (f 1)) ((f 2) + (f 3)))), (2, .int (mxQuot (100 * (f 0)) (((3 * (f 1)) + (2 * (f 2))) + (f 3)))), (0, .ref o), (1, .int 0)]) (by decide) rfl ?_
  refine V_bipush hC dL_modulus_42 (v := 10) (by decide) ?_
  refine V_aload_n hC dL_modulus_44 2 rfl ?_
  refine V_iconst hC dL_modulus_45 (v := 2) (by decide) ?_
  refine V_iald hC dL_modulus_46 (mem_at 0 0 rfl rfl) (vin (by decide)) (x := 2) (by decide) ?_
  refine V_imul hC dL_modulus_47 ?_
  refine V_aload_n hC dL_modulus_48 2 rfl ?_
  refine V_iconst hC dL_modulus_49 (v := 3) (by decide) ?_
  refine V_iald hC dL_modulus_50 (mem_at 0 0 rfl rfl) (vin (by decide)) (x := 3) (by decide) ?_
  refine V_calli hC (V_runS hC (rest := []) [.int (10 * (f 2)), .int (f 3)] (c_L_part l G (10 * (f 2)) (f 3)) [] rfl (by decide) q783 q784 q18 q785 ⟨by decide, by decide, rfl⟩ ⟨by decide, by decide⟩ rfl (Nat.le_of_ble_eq_true rfl) ⟨by decide, by decide⟩ dL_modulus_51) (is := []) rfl [0] (rs := [[(o, .inl (G.2.1 0, 4, .inl f))]]) rfl (by decide) (by decide) ?_
  rintro _ _ ⟨rfl, rfl⟩
  refine V_istore hC dL_modulus_54 (L' := [(4, .int (mxQuot (10 * (f 2)) (f 3))), (3, .int (mxQuot (10 * (f 1)) ((f 2) + (f 3)))), (2, .int (mxQuot (100 * (f 0)) (((3 * (f 1)) + (2 * (f 2))) + (f 3)))), (0, .ref o), (1, .int 0)]) (by decide) rfl ?_
  refine V_iload_n hC dL_modulus_56 4 rfl ?_
  refine V_if_neF hC dL_modulus_57 (tgt := 64) (by decide) (by decide) ?_
  refine V_iload_n hC dL_modulus_60 2 rfl ?_
  refine V_goto hC dL_modulus_61 (tgt := 121) (by decide) ?_
  exact V_iret hC hQ hr [0] (u := [[(o, .inl (G.2.1 0, 4, .inl f))]]) (by decide) rfl (by decide) (by decide) dL_modulus_121 (⟨rfl, rfl⟩)
set_option maxHeartbeats 4000000 in
set_option maxRecDepth 100000 in
/-- ClinkerWorksLaw$Told.block -/
theorem c_X9_block (l : Launch) (hl0 : l.stackTraces = false) (G : VG) (t m ba la wa d : Nat) (nb : Nat) (bA : Nat → Nat) (bl : Nat → Nat → Int32) (bz : Nat → BV) (n : Nat) (f g : Nat → Int32) (S : KS) (nl : Nat) (lz : Nat → LV) (P : va_W) (s0 v0 v1 v2 v3 : Int32) (hP : isW G m nb bz n f g S nl lz P) (hI : wOk nb bz n f g S nl) (hb : bkOk s0 v0 v1 v2 v3) (hlt : nb < 6) : Mi l G yX9_block cX9_block 6 .boolean 8 129 10 80 [.ref t, .int s0, .int v0, .int v1, .int v2, .int v3] [[(t, .inr (10, [.ref m, .ref (G.2.2 1), .int (nI d), .ref ba, .ref la, .ref wa]))], [(ba, .inl (G.2.1 9, nb, .inr (.inr (.inr (.inr (rfN nb bA))))))], famW nb (fun ι => iaP G (bA ι) 5 (bl ι)), P] (fun r u => ∃ (ba2 : Nat) (bA2 : Nat → Nat) (P9 : va_W), r = 1 ∧ isW G m (nb + 1) (va_up bz nb (s0, (bz nb).2.1, tl5 (bz nb).2.2 v0 v1 v2 v3)) n f g S nl lz P9 ∧ u = [[(t, .inr (10, [.ref m, .ref (G.2.2 1), .int (nI d), .ref ba2, .ref la, .ref wa]))], [(ba2, .inl (G.2.1 9, (nb + 1), .inr (.inr (.inr (.inr (rfN (nb + 1) bA2))))))], famW (nb + 1) (fun ι => iaP G (bA2 ι) 5 ((va_up bl nb (rw5 s0 v0 v1 v2 v3)) ι)), P9]) := by
  refine Mi_of (by decide) (Nat.le_of_ble_eq_true rfl) (fun pP eE sS mM aA bB tT cC AA QQ hC hr hnm hQ => ?_)
  refine V_aload_n hC dX9_block_0 0 rfl ?_
  refine V_aload_n hC dX9_block_1 0 rfl ?_
  refine V_get hC dX9_block_2 inAX9 (mem_at 0 0 rfl rfl) rfl 3 (by decide) q724 rfl (v := .ref ba) rfl ?_
  refine V_iconst hC dX9_block_5 (v := 5) (by decide) ?_
  refine V_newa_i hC q70 (N := 5) (by decide) (by decide) (by decide) (by decide) (by decide) dX9_block_6 (fun q1 => ?_)
  refine V_dup hC dX9_block_8 rfl ?_
  refine V_iconst hC dX9_block_9 (v := 0) (by decide) ?_
  refine V_iload_n hC dX9_block_10 1 rfl ?_
  refine V_iast hC dX9_block_11 4 0 rfl rfl (vin (by decide)) (z := 0) (by decide) (ps' := [[(t, .inr (10, [.ref m, .ref (G.2.2 1), .int (nI d), .ref ba, .ref la, .ref wa]))], [(ba, .inl (G.2.1 9, nb, .inr (.inr (.inr (.inr (rfN nb bA))))))], famW nb (fun ι => iaP G (bA ι) 5 (bl ι)), P, [(q1, .inl (G.2.1 0, 5, .inl (upd (fun _ => 0) 0 s0)))]]) rfl ?_
  refine V_dup hC dX9_block_12 rfl ?_
  refine V_iconst hC dX9_block_13 (v := 1) (by decide) ?_
  refine V_iload_n hC dX9_block_14 2 rfl ?_
  refine V_iast hC dX9_block_15 4 0 rfl rfl (vin (by decide)) (z := 1) (by decide) (ps' := [[(t, .inr (10, [.ref m, .ref (G.2.2 1), .int (nI d), .ref ba, .ref la, .ref wa]))], [(ba, .inl (G.2.1 9, nb, .inr (.inr (.inr (.inr (rfN nb bA))))))], famW nb (fun ι => iaP G (bA ι) 5 (bl ι)), P, [(q1, .inl (G.2.1 0, 5, .inl (upd (upd (fun _ => 0) 0 s0) 1 v0)))]]) rfl ?_
  refine V_dup hC dX9_block_16 rfl ?_
  refine V_iconst hC dX9_block_17 (v := 2) (by decide) ?_
  refine V_iload_n hC dX9_block_18 3 rfl ?_
  refine V_iast hC dX9_block_19 4 0 rfl rfl (vin (by decide)) (z := 2) (by decide) (ps' := [[(t, .inr (10, [.ref m, .ref (G.2.2 1), .int (nI d), .ref ba, .ref la, .ref wa]))], [(ba, .inl (G.2.1 9, nb, .inr (.inr (.inr (.inr (rfN nb bA))))))], famW nb (fun ι => iaP G (bA ι) 5 (bl ι)), P, [(q1, .inl (G.2.1 0, 5, .inl (upd (upd (upd (fun _ => 0) 0 s0) 1 v0) 2 v1)))]]) rfl ?_
  refine V_dup hC dX9_block_20 rfl ?_
  refine V_iconst hC dX9_block_21 (v := 3) (by decide) ?_
  refine V_iload hC dX9_block_22 4 rfl ?_
  refine V_iast hC dX9_block_24 4 0 rfl rfl (vin (by decide)) (z := 3) (by decide) (ps' := [[(t, .inr (10, [.ref m, .ref (G.2.2 1), .int (nI d), .ref ba, .ref la, .ref wa]))], [(ba, .inl (G.2.1 9, nb, .inr (.inr (.inr (.inr (rfN nb bA))))))], famW nb (fun ι => iaP G (bA ι) 5 (bl ι)), P, [(q1, .inl (G.2.1 0, 5, .inl (upd (upd (upd (upd (fun _ => 0) 0 s0) 1 v0) 2 v1) 3 v2)))]]) rfl ?_
  refine V_dup hC dX9_block_25 rfl ?_
  refine V_iconst hC dX9_block_26 (v := 4) (by decide) ?_
  refine V_iload hC dX9_block_27 5 rfl ?_
  refine V_iast hC dX9_block_29 4 0 rfl rfl (vin (by decide)) (z := 4) (by decide) (ps' := [[(t, .inr (10, [.ref m, .ref (G.2.2 1), .int (nI d), .ref ba, .ref la, .ref wa]))], [(ba, .inl (G.2.1 9, nb, .inr (.inr (.inr (.inr (rfN nb bA))))))], famW nb (fun ι => iaP G (bA ι) 5 (bl ι)), P, [(q1, .inl (G.2.1 0, 5, .inl (upd (upd (upd (upd (upd (fun _ => 0) 0 s0) 1 v0) 2 v1) 3 v2) 4 v3)))]]) rfl ?_
  refine V_sub [2, 4, 0, 1, 3] (by decide) (u := [famW nb (fun ι => iaP G (bA ι) 5 (bl ι)), [(q1, .inl (G.2.1 0, 5, .inl (upd (upd (upd (upd (upd (fun _ => 0) 0 s0) 1 v0) 2 v1) 3 v2) 4 v3)))], [(t, .inr (10, [.ref m, .ref (G.2.2 1), .int (nI d), .ref ba, .ref la, .ref wa]))], [(ba, .inl (G.2.1 9, nb, .inr (.inr (.inr (.inr (rfN nb bA))))))], P]) rfl ?_
  refine V_flat (ps' := [(famW nb (fun ι => iaP G (bA ι) 5 (bl ι)) ++ iaP G q1 5 (upd (upd (upd (upd (upd (fun _ => 0) 0 s0) 1 v0) 2 v1) 3 v2) 4 v3)), [(t, .inr (10, [.ref m, .ref (G.2.2 1), .int (nI d), .ref ba, .ref la, .ref wa]))], [(ba, .inl (G.2.1 9, nb, .inr (.inr (.inr (.inr (rfN nb bA))))))], P]) flat_join ?_
  refine V_callr hC (V_runS hC (rest := [.ref t]) [.ref ba, .ref q1] (Mr_sz (c_X9_plus l G ba q1 nb bA (famW nb (fun ι => iaP G (bA ι) 5 (bl ι)) ++ iaP G q1 5 (upd (upd (upd (upd (upd (fun _ => 0) 0 s0) 1 v0) 2 v1) 3 v2) 4 v3)) (by omega) (fun i hi => iaIn_l (iaIn_fam hi)) (iaIn_r iaIn_1))) [2, 0] rfl (by decide) q778 q756 q19 q757 ⟨by decide, by decide, rfl⟩ ⟨by decide, by decide⟩ rfl (Nat.le_of_ble_eq_true rfl) ⟨by decide, by decide⟩ dX9_block_30) (is := [2, 0]) rfl [1, 3] (rs := [[(t, .inr (10, [.ref m, .ref (G.2.2 1), .int (nI d), .ref ba, .ref la, .ref wa]))], P]) rfl (by decide) (by decide) ?_
  rintro _ _ ⟨q2, rfl, rfl⟩
  refine V_psEq (ps' := [[(q2, .inl (G.2.1 9, nb + 1, .inr (.inr (.inr (.inr (rfN (nb + 1) (va_up bA nb q1)))))))], famW (nb + 1) (fun ι => iaP G ((va_up bA nb q1) ι) 5 ((va_up bl nb (upd (upd (upd (upd (upd (fun _ => 0) 0 s0) 1 v0) 2 v1) 3 v2) 4 v3)) ι)), [(t, .inr (10, [.ref m, .ref (G.2.2 1), .int (nI d), .ref ba, .ref la, .ref wa]))], P]) (by rw [fam_push]; rfl) ?_
  refine V_put hC dX9_block_33 inAX9 tyX9 tyX9_ok nmX9 2 0 rfl rfl rfl 3 (by decide) q724 rfl rfl (rfl) (rfl) (Nat.le_of_ble_eq_true rfl) (ps' := [[(q2, .inl (G.2.1 9, nb + 1, .inr (.inr (.inr (.inr (rfN (nb + 1) (va_up bA nb q1)))))))], famW (nb + 1) (fun ι => iaP G ((va_up bA nb q1) ι) 5 ((va_up bl nb (upd (upd (upd (upd (upd (fun _ => 0) 0 s0) 1 v0) 2 v1) 3 v2) 4 v3)) ι)), [(t, .inr (10, [.ref m, .ref (G.2.2 1), .int (nI d), .ref q2, .ref la, .ref wa]))], P]) rfl ?_
  refine V_aload_n hC dX9_block_36 0 rfl ?_
  refine V_get hC dX9_block_37 inAX9 (mem_at 2 0 rfl rfl) rfl 0 (by decide) q720 rfl (v := .ref m) rfl ?_
  refine V_iload_n hC dX9_block_40 1 rfl ?_
  refine V_iload_n hC dX9_block_41 2 rfl ?_
  refine V_iload_n hC dX9_block_42 3 rfl ?_
  refine V_iload hC dX9_block_43 4 rfl ?_
  refine V_iload hC dX9_block_45 5 rfl ?_
  obtain ⟨fshm3, hm3⟩ := isW_mem hP
  refine V_calli hC (V_runV hC (rest := []) [.int s0, .int v0, .int v1, .int v2, .int v3] (w_block l hl0 G m nb bz n f g S nl lz P s0 v0 v1 v2 v3 hP hI hb hlt) [3] rfl (by decide) q798 q799 q800 q20 q801 ⟨by decide, by decide, rfl⟩ ⟨by decide, by decide⟩ (ci := 9) rfl (mem_pc 3 rfl hm3) rfl (Nat.le_of_ble_eq_true rfl) ⟨by decide, by decide⟩ dX9_block_47) (is := [3]) rfl [0, 1, 2] (rs := [[(q2, .inl (G.2.1 9, nb + 1, .inr (.inr (.inr (.inr (rfN (nb + 1) (va_up bA nb q1)))))))], famW (nb + 1) (fun ι => iaP G ((va_up bA nb q1) ι) 5 ((va_up bl nb (upd (upd (upd (upd (upd (fun _ => 0) 0 s0) 1 v0) 2 v1) 3 v2) 4 v3)) ι)), [(t, .inr (10, [.ref m, .ref (G.2.2 1), .int (nI d), .ref q2, .ref la, .ref wa]))]]) rfl (by decide) (by decide) ?_
  rintro _ _ ⟨P94, ⟨rfl, hW4⟩, rfl⟩
  refine V_aload_n hC dX9_block_50 0 rfl ?_
  refine V_get hC dX9_block_51 inAX9 (mem_at 3 0 rfl rfl) rfl 3 (by decide) q724 rfl (v := .ref q2) rfl ?_
  refine V_alen hC dX9_block_54 9 rfl (mem_at 1 0 rfl rfl) (v := nI (nb + 1)) (rfl) ?_
  refine V_iconst hC dX9_block_55 (v := 1) (by decide) ?_
  refine V_isub hC dX9_block_56 ?_
  refine V_eqi (y := nI nb) (nI_pred nb) ?_
  refine V_icmp_neF hC dX9_block_57 (tgt := 64) (by decide) (rfl) ?_
  refine V_iconst hC dX9_block_60 (v := 1) (by decide) ?_
  refine V_goto hC dX9_block_61 (tgt := 65) (by decide) ?_
  exact V_zret hC hQ hr (by decide) [3, 1, 2, 0] (u := [[(t, .inr (10, [.ref m, .ref (G.2.2 1), .int (nI d), .ref q2, .ref la, .ref wa]))], [(q2, .inl (G.2.1 9, nb + 1, .inr (.inr (.inr (.inr (rfN (nb + 1) (va_up bA nb q1)))))))], famW (nb + 1) (fun ι => iaP G ((va_up bA nb q1) ι) 5 ((va_up bl nb (upd (upd (upd (upd (upd (fun _ => 0) 0 s0) 1 v0) 2 v1) 3 v2) 4 v3)) ι)), P94]) (by decide) rfl (by decide) (by decide) dX9_block_65 (⟨_, _, _, rfl, hW4, rfl⟩)
set_option maxHeartbeats 4000000 in
set_option maxRecDepth 100000 in
/-- ClinkerWorksLaw$Told.blast -/
theorem c_X9_blast (l : Launch) (hl0 : l.stackTraces = false) (G : VG) (t m ba la wa d : Nat) (bA : Nat → Nat) (bl : Nat → Nat → Int32) (lA : Nat → Nat) (lf : Nat → Nat → Int32) (bz : Nat → BV) (n : Nat) (f g : Nat → Int32) (S : KS) (nl : Nat) (lz : Nat → LV) (P : va_W) (k : Nat) (st p : Nat → Nat) (i px : Nat) (hP : isW G m 4 bz n f g S nl lz P) (hT : tB k st p bz n f g bl lf) (hX : tX bz bl) (hk : k ≤ 3) (hw : kwf S) (hnl : nl ≤ 12) (hi : i < 4) (hpx1 : 5 ≤ px) (hpx2 : px ≤ 34) : Mi l G yX9_blast cX9_blast 4 .boolean 8 128 5 60 [.ref t, .int (nI i), .int (nI px)] [[(t, .inr (10, [.ref m, .ref (G.2.2 1), .int (nI d), .ref ba, .ref la, .ref wa]))], [(ba, .inl (G.2.1 9, 4, .inr (.inr (.inr (.inr (rfN 4 bA))))))], famW 4 (fun ι => iaP G (bA ι) 5 (bl ι)), [(la, .inl (G.2.1 9, n, .inr (.inr (.inr (.inr (rfN n lA))))))], famW n (fun ι => iaP G (lA ι) 2 (lf ι)), P] (fun r u => ∃ (la2 : Nat) (lA2 : Nat → Nat) (n2 : Nat) (lf2 bl2 : Nat → Nat → Int32) (bz2 : Nat → BV) (f2 g2 : Nat → Int32) (st2 p2 : Nat → Nat) (P9 : va_W), r = 1 ∧ isW G m 4 bz2 n2 f2 g2 S nl lz P9 ∧ tB (k + 1) st2 p2 bz2 n2 f2 g2 bl2 lf2 ∧ tX bz2 bl2 ∧ u = [[(t, .inr (10, [.ref m, .ref (G.2.2 1), .int (nI d), .ref ba, .ref la2, .ref wa]))], [(ba, .inl (G.2.1 9, 4, .inr (.inr (.inr (.inr (rfN 4 bA))))))], famW 4 (fun ι => iaP G (bA ι) 5 (bl2 ι)), [(la2, .inl (G.2.1 9, n2, .inr (.inr (.inr (.inr (rfN n2 lA2))))))], famW n2 (fun ι => iaP G (lA2 ι) 2 (lf2 ι)), P9]) := by
  refine Mi_of (by decide) (Nat.le_of_ble_eq_true rfl) (fun pP eE sS mM aA bB tT cC AA QQ hC hr hnm hQ => ?_)
  have hI := tB_ok hT (by omega) hw hnl
  obtain ⟨hbl, hbz, hsum, hkn⟩ := hT.2.1 i hi
  have hsi : st i ≤ 160 := by omega
  have hn8 := hT.1
  refine V_iload_n hC dX9_blast_0 2 rfl ?_
  refine V_aload_n hC dX9_blast_1 0 rfl ?_
  refine V_get hC dX9_blast_2 inAX9 (mem_at 0 0 rfl rfl) rfl 3 (by decide) q724 rfl (v := .ref ba) rfl ?_
  refine V_iload_n hC dX9_blast_5 1 rfl ?_
  refine V_aaldI hC dX9_blast_6 (mem_at 1 0 rfl rfl) (vp_in_nI (by omega) (by omega)) (x := i) (nI_clamp (by omega)) (b := bA i) (rfN_at (hi)) ?_
  refine V_iconst hC dX9_blast_7 (v := 0) (by decide) ?_
  refine V_iald hC dX9_blast_8 (mem_fam 2 0 rfl i (hi) rfl) (vin (by decide)) (x := 0) (by decide) ?_
  refine V_eqi (y := nI (st i)) (hbl) ?_
  refine V_mmin hC q811 q424 q35 q425 (by decide) (Nat.le_of_ble_eq_true rfl) (by decide) (by decide) dX9_blast_9 ?_
  refine V_eqi (y := nI (min px (st i))) (mn_nI) ?_
  refine V_istore_n hC dX9_blast_12 (L' := [(3, .int (nI (min px (st i)))), (0, .ref t), (1, .int (nI i)), (2, .int (nI px))]) (by decide) rfl ?_
  refine V_iload_n hC dX9_blast_13 0 rfl ?_
  refine V_if_eq hC dX9_blast_14 (tgt := 27) (by decide) (fun h1 => ?_) (fun h1 => ?_)
  · have hz : (min px (st i)) = 0 := nI_z h1 (by omega)
    refine V_iconst hC dX9_blast_27 (v := 1) (by decide) ?_
    exact V_zret hC hQ hr (by decide) [0, 1, 2, 3, 4, 5] (u := [[(t, .inr (10, [.ref m, .ref (G.2.2 1), .int (nI d), .ref ba, .ref la, .ref wa]))], [(ba, .inl (G.2.1 9, 4, .inr (.inr (.inr (.inr (rfN 4 bA))))))], famW 4 (fun ι => iaP G (bA ι) 5 (bl ι)), [(la, .inl (G.2.1 9, n, .inr (.inr (.inr (.inr (rfN n lA))))))], famW n (fun ι => iaP G (lA ι) 2 (lf ι)), P]) (by decide) rfl (by decide) (by decide) dX9_blast_28 (⟨la, lA, n, lf, bl, bz, f, g, st, p, P, rfl, hP, tB_up hT, hX, rfl⟩)
  · have hz : ¬ (min px (st i)) = 0 := fun q => h1 (by rw [q]; rfl)
    refine V_aload_n hC dX9_blast_17 1 rfl ?_
    refine V_get hC dX9_blast_18 inAX9 (mem_at 0 0 rfl rfl) rfl 4 (by decide) q726 rfl (v := .ref la) rfl ?_
    refine V_alen hC dX9_blast_21 9 rfl (mem_at 3 0 rfl rfl) (v := nI n) (rfl) ?_
    refine V_bipush hC dX9_blast_22 (v := 8) (by decide) ?_
    refine V_icmp_neT hC dX9_blast_24 (tgt := 29) (by decide) (fun q => absurd (nI_inj (b := 8) q) (by omega)) ?_
    refine V_aload_n hC dX9_blast_29 1 rfl ?_
    refine V_get hC dX9_blast_30 inAX9 (mem_at 0 0 rfl rfl) rfl 3 (by decide) q724 rfl (v := .ref ba) rfl ?_
    refine V_iload_n hC dX9_blast_33 2 rfl ?_
    refine V_aaldI hC dX9_blast_34 (mem_at 1 0 rfl rfl) (vp_in_nI (by omega) (by omega)) (x := i) (nI_clamp (by omega)) (b := bA i) (rfN_at (hi)) ?_
    refine V_iconst hC dX9_blast_35 (v := 0) (by decide) ?_
    refine V_sub [2, 0, 1, 3, 4, 5] (by decide) (u := [famW 4 (fun ι => iaP G (bA ι) 5 (bl ι)), [(t, .inr (10, [.ref m, .ref (G.2.2 1), .int (nI d), .ref ba, .ref la, .ref wa]))], [(ba, .inl (G.2.1 9, 4, .inr (.inr (.inr (.inr (rfN 4 bA))))))], [(la, .inl (G.2.1 9, n, .inr (.inr (.inr (.inr (rfN n lA))))))], famW n (fun ι => iaP G (lA ι) 2 (lf ι)), P]) rfl ?_
    refine V_open (i := i) (hi) ?_
    refine V_dup2 hC dX9_blast_36 rfl rfl ?_
    refine V_iald hC dX9_blast_37 (mem_at 0 0 rfl rfl) (vin (by decide)) (x := 0) (by decide) ?_
    refine V_eqi (y := nI (st i)) (hbl) ?_
    refine V_iload_n hC dX9_blast_38 0 rfl ?_
    refine V_isub hC dX9_blast_39 ?_
    refine V_eqi (y := nI (st i - min px (st i))) (pk_sub (by omega)) ?_
    refine V_iast hC dX9_blast_40 0 0 rfl rfl (vin (by decide)) (z := 0) (by decide) (ps' := [iaP G (bA i) 5 (upd (bl i) 0 (nI (st i - min px (st i)))), famX 4 i (fun ι => iaP G (bA ι) 5 (bl ι)), [(t, .inr (10, [.ref m, .ref (G.2.2 1), .int (nI d), .ref ba, .ref la, .ref wa]))], [(ba, .inl (G.2.1 9, 4, .inr (.inr (.inr (.inr (rfN 4 bA))))))], [(la, .inl (G.2.1 9, n, .inr (.inr (.inr (.inr (rfN n lA))))))], famW n (fun ι => iaP G (lA ι) 2 (lf ι)), P]) rfl ?_
    refine V_close (i := i) (g' := fun ι => iaP G (bA ι) 5 ((va_up bl i (upd (bl i) 0 (nI (st i - min px (st i))))) ι)) (hi) (by rw [va_up_eq]) (fun j _ hne => by rw [va_up_ne _ _ hne]) ?_
    refine V_aload_n hC dX9_blast_41 1 rfl ?_
    refine V_aload_n hC dX9_blast_42 1 rfl ?_
    refine V_get hC dX9_blast_43 inAX9 (mem_at 1 0 rfl rfl) rfl 4 (by decide) q726 rfl (v := .ref la) rfl ?_
    refine V_iconst hC dX9_blast_46 (v := 2) (by decide) ?_
    refine V_newa_i hC q70 (N := 2) (by decide) (by decide) (by decide) (by decide) (by decide) dX9_blast_47 (fun q2 => ?_)
    refine V_dup hC dX9_blast_49 rfl ?_
    refine V_iconst hC dX9_blast_50 (v := 0) (by decide) ?_
    refine V_iload_n hC dX9_blast_51 2 rfl ?_
    refine V_iast hC dX9_blast_52 6 0 rfl rfl (vin (by decide)) (z := 0) (by decide) (ps' := [famW 4 (fun ι => iaP G (bA ι) 5 ((va_up bl i (upd (bl i) 0 (nI (st i - min px (st i))))) ι)), [(t, .inr (10, [.ref m, .ref (G.2.2 1), .int (nI d), .ref ba, .ref la, .ref wa]))], [(ba, .inl (G.2.1 9, 4, .inr (.inr (.inr (.inr (rfN 4 bA))))))], [(la, .inl (G.2.1 9, n, .inr (.inr (.inr (.inr (rfN n lA))))))], famW n (fun ι => iaP G (lA ι) 2 (lf ι)), P, [(q2, .inl (G.2.1 0, 2, .inl (upd (fun _ => 0) 0 (nI i))))]]) rfl ?_
    refine V_dup hC dX9_blast_53 rfl ?_
    refine V_iconst hC dX9_blast_54 (v := 1) (by decide) ?_
    refine V_iload_n hC dX9_blast_55 0 rfl ?_
    refine V_iast hC dX9_blast_56 6 0 rfl rfl (vin (by decide)) (z := 1) (by decide) (ps' := [famW 4 (fun ι => iaP G (bA ι) 5 ((va_up bl i (upd (bl i) 0 (nI (st i - min px (st i))))) ι)), [(t, .inr (10, [.ref m, .ref (G.2.2 1), .int (nI d), .ref ba, .ref la, .ref wa]))], [(ba, .inl (G.2.1 9, 4, .inr (.inr (.inr (.inr (rfN 4 bA))))))], [(la, .inl (G.2.1 9, n, .inr (.inr (.inr (.inr (rfN n lA))))))], famW n (fun ι => iaP G (lA ι) 2 (lf ι)), P, [(q2, .inl (G.2.1 0, 2, .inl (upd (upd (fun _ => 0) 0 (nI i)) 1 (nI (min px (st i))))))]]) rfl ?_
    refine V_sub [4, 6, 0, 1, 2, 3, 5] (by decide) (u := [famW n (fun ι => iaP G (lA ι) 2 (lf ι)), [(q2, .inl (G.2.1 0, 2, .inl (upd (upd (fun _ => 0) 0 (nI i)) 1 (nI (min px (st i))))))], famW 4 (fun ι => iaP G (bA ι) 5 ((va_up bl i (upd (bl i) 0 (nI (st i - min px (st i))))) ι)), [(t, .inr (10, [.ref m, .ref (G.2.2 1), .int (nI d), .ref ba, .ref la, .ref wa]))], [(ba, .inl (G.2.1 9, 4, .inr (.inr (.inr (.inr (rfN 4 bA))))))], [(la, .inl (G.2.1 9, n, .inr (.inr (.inr (.inr (rfN n lA))))))], P]) rfl ?_
    refine V_flat (ps' := [(famW n (fun ι => iaP G (lA ι) 2 (lf ι)) ++ iaP G q2 2 (upd (upd (fun _ => 0) 0 (nI i)) 1 (nI (min px (st i))))), famW 4 (fun ι => iaP G (bA ι) 5 ((va_up bl i (upd (bl i) 0 (nI (st i - min px (st i))))) ι)), [(t, .inr (10, [.ref m, .ref (G.2.2 1), .int (nI d), .ref ba, .ref la, .ref wa]))], [(ba, .inl (G.2.1 9, 4, .inr (.inr (.inr (.inr (rfN 4 bA))))))], [(la, .inl (G.2.1 9, n, .inr (.inr (.inr (.inr (rfN n lA))))))], P]) flat_join ?_
    refine V_callr hC (V_runS hC (rest := [.ref t]) [.ref la, .ref q2] (Mr_sz (c_X9_plus l G la q2 n lA (famW n (fun ι => iaP G (lA ι) 2 (lf ι)) ++ iaP G q2 2 (upd (upd (fun _ => 0) 0 (nI i)) 1 (nI (min px (st i))))) (by omega) (fun i hi => iaIn_l (iaIn_fam hi)) (iaIn_r iaIn_1))) [4, 0] rfl (by decide) q778 q756 q19 q757 ⟨by decide, by decide, rfl⟩ ⟨by decide, by decide⟩ rfl (Nat.le_of_ble_eq_true rfl) ⟨by decide, by decide⟩ dX9_blast_57) (is := [4, 0]) rfl [1, 2, 3, 5] (rs := [famW 4 (fun ι => iaP G (bA ι) 5 ((va_up bl i (upd (bl i) 0 (nI (st i - min px (st i))))) ι)), [(t, .inr (10, [.ref m, .ref (G.2.2 1), .int (nI d), .ref ba, .ref la, .ref wa]))], [(ba, .inl (G.2.1 9, 4, .inr (.inr (.inr (.inr (rfN 4 bA))))))], P]) rfl (by decide) (by decide) ?_
    rintro _ _ ⟨q3, rfl, rfl⟩
    refine V_psEq (ps' := [[(q3, .inl (G.2.1 9, n + 1, .inr (.inr (.inr (.inr (rfN (n + 1) (va_up lA n q2)))))))], famW (n + 1) (fun ι => iaP G ((va_up lA n q2) ι) 2 ((va_up lf n (upd (upd (fun _ => 0) 0 (nI i)) 1 (nI (min px (st i))))) ι)), famW 4 (fun ι => iaP G (bA ι) 5 ((va_up bl i (upd (bl i) 0 (nI (st i - min px (st i))))) ι)), [(t, .inr (10, [.ref m, .ref (G.2.2 1), .int (nI d), .ref ba, .ref la, .ref wa]))], [(ba, .inl (G.2.1 9, 4, .inr (.inr (.inr (.inr (rfN 4 bA))))))], P]) (by rw [fam_push]; rfl) ?_
    refine V_put hC dX9_blast_60 inAX9 tyX9 tyX9_ok nmX9 3 0 rfl rfl rfl 4 (by decide) q726 rfl rfl (rfl) (rfl) (Nat.le_of_ble_eq_true rfl) (ps' := [[(q3, .inl (G.2.1 9, n + 1, .inr (.inr (.inr (.inr (rfN (n + 1) (va_up lA n q2)))))))], famW (n + 1) (fun ι => iaP G ((va_up lA n q2) ι) 2 ((va_up lf n (upd (upd (fun _ => 0) 0 (nI i)) 1 (nI (min px (st i))))) ι)), famW 4 (fun ι => iaP G (bA ι) 5 ((va_up bl i (upd (bl i) 0 (nI (st i - min px (st i))))) ι)), [(t, .inr (10, [.ref m, .ref (G.2.2 1), .int (nI d), .ref ba, .ref q3, .ref wa]))], [(ba, .inl (G.2.1 9, 4, .inr (.inr (.inr (.inr (rfN 4 bA))))))], P]) rfl ?_
    refine V_aload_n hC dX9_blast_63 1 rfl ?_
    refine V_get hC dX9_blast_64 inAX9 (mem_at 3 0 rfl rfl) rfl 0 (by decide) q720 rfl (v := .ref m) rfl ?_
    refine V_iload_n hC dX9_blast_67 2 rfl ?_
    refine V_iload_n hC dX9_blast_68 3 rfl ?_
    obtain ⟨fshm4, hm4⟩ := isW_mem hP
    refine V_calli hC (V_runV hC (rest := []) [.int (nI i), .int (nI px)] (w_blast l hl0 G m 4 bz n f g S nl lz P i (nI px) hP hI hi ⟨(nI_leI (a := 1) (by omega) (by omega)).mpr (by omega), (nI_leI (b := 99) (by omega) (by omega)).mpr (by omega)⟩ (fun q => hz (by rw [hbz] at q; have := nI_z q (by omega); omega)) (by omega)) [5] rfl (by decide) q812 q813 q814 q20 q815 ⟨by decide, by decide, rfl⟩ ⟨by decide, by decide⟩ (ci := 9) rfl (mem_pc 5 rfl hm4) rfl (Nat.le_of_ble_eq_true rfl) ⟨by decide, by decide⟩ dX9_blast_69) (is := [5]) rfl [0, 1, 2, 3, 4] (rs := [[(q3, .inl (G.2.1 9, n + 1, .inr (.inr (.inr (.inr (rfN (n + 1) (va_up lA n q2)))))))], famW (n + 1) (fun ι => iaP G ((va_up lA n q2) ι) 2 ((va_up lf n (upd (upd (fun _ => 0) 0 (nI i)) 1 (nI (min px (st i))))) ι)), famW 4 (fun ι => iaP G (bA ι) 5 ((va_up bl i (upd (bl i) 0 (nI (st i - min px (st i))))) ι)), [(t, .inr (10, [.ref m, .ref (G.2.2 1), .int (nI d), .ref ba, .ref q3, .ref wa]))], [(ba, .inl (G.2.1 9, 4, .inr (.inr (.inr (.inr (rfN 4 bA))))))]]) rfl (by decide) (by decide) ?_
    rintro _ _ ⟨P95, ⟨rfl, hW5⟩, rfl⟩
    refine V_iload_n hC dX9_blast_72 0 rfl ?_
    refine V_icmp_neF hC dX9_blast_73 (tgt := 80) (by decide) (by rw [hbz, mn_nI]) ?_
    refine V_iconst hC dX9_blast_76 (v := 1) (by decide) ?_
    refine V_goto hC dX9_blast_77 (tgt := 81) (by decide) ?_
    exact V_zret hC hQ hr (by decide) [4, 5, 3, 1, 2, 0] (u := [[(t, .inr (10, [.ref m, .ref (G.2.2 1), .int (nI d), .ref ba, .ref q3, .ref wa]))], [(ba, .inl (G.2.1 9, 4, .inr (.inr (.inr (.inr (rfN 4 bA))))))], famW 4 (fun ι => iaP G (bA ι) 5 ((va_up bl i (upd (bl i) 0 (nI (st i - min px (st i))))) ι)), [(q3, .inl (G.2.1 9, n + 1, .inr (.inr (.inr (.inr (rfN (n + 1) (va_up lA n q2)))))))], famW (n + 1) (fun ι => iaP G ((va_up lA n q2) ι) 2 ((va_up lf n (upd (upd (fun _ => 0) 0 (nI i)) 1 (nI (min px (st i))))) ι)), P95]) (by decide) rfl (by decide) (by decide) dX9_blast_81 (⟨_, _, _, _, _, _, _, _, _, _, _, rfl, hW5, tB_put hT hi hpx2 hz, tX_put hX, rfl⟩)
