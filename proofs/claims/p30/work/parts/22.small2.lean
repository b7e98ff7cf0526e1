/-! ===== what lots, silos, the window and the pile compute ===== -/
def ltGr (sil : Int32) : Int32 := if sil = -1 then 0 else 1
def ltPrice (fin : Int32) : Int32 := if fin < 6 then 3 else 4
def ltStr (i : Nat) (fin gyp sag al bel fre : Int32) (f : Nat → Int32) : Int32 :=
  if sag ≤ 0 then 0 else mx 0 (10 * (tb4 2 3 4 0 i * al + tb4 0 1 3 0 i * bel) / sag + tb4 2 1 0 0 i * fin - 2 * fre - 3 * ab (gyp - (f 2 / 4 + 2)))
def siAt (f : Nat → Int32) (n : Nat) (k : Int32) : Int32 := if ixB k (nI n) = 0 then -1 else f k.toNatClampNeg
def siSh (f : Nat → Int32) : Nat → Nat → Int32
  | 0 => f
  | k + 1 => upd (siSh f k) k (siSh f k (k + 1))
theorem ixB_vin {x : Int32} {n N : Nat} (h : ¬ ixB x (nI n) = 0) (hN : n ≤ N) (h2 : N < 2 ^ 31 := by omega) : vp_in x N := by
  unfold ixB at h
  split at h
  · exact absurd rfl h
  · split at h
    · exact absurd rfl h
    · rename_i a b
      rw [vp_in_iff]
      rw [Int32.lt_iff_toInt_lt] at a
      rw [Int32.le_iff_toInt_le, nI_toInt (by omega)] at b
      have : (0 : Int32).toInt = 0 := rfl
      omega
def sh5 (f : Nat → Int32) : Nat → Int32 := upd (upd (upd (upd (upd f 0 (f 1)) 1 (f 2)) 2 (f 3)) 3 (f 4)) 4 (f 5)
def wiF (f : Nat → Int32) (n : Nat) (x : Int32) : Nat → Int32 := if n < 6 then upd f n x else upd (sh5 f) 5 x
def wiN (n : Nat) : Nat := if n < 6 then n + 1 else 6
def anyLow (f : Nat → Int32) (b : Int32) : Nat → Bool
  | 0 => false
  | n + 1 => anyLow f b n || decide (f n < b)
theorem anyLow_of {f : Nat → Int32} {b : Int32} {i : Nat} (h : f i < b) : ∀ {n : Nat}, i < n → anyLow f b n = true
  | 0, hi => absurd hi (Nat.not_lt_zero _)
  | n + 1, hi => by
    unfold anyLow
    by_cases e : i = n
    · subst e; simp [h]
    · rw [anyLow_of h (by omega)]; rfl
theorem anyLow_step {f : Nat → Int32} {b : Int32} {i : Nat} (h : anyLow f b i = false) (h2 : ¬ f i < b) : anyLow f b (i + 1) = false := by
  unfold anyLow
  rw [h]; simp [h2]
def wiHolds (f : Nat → Int32) (n : Nat) (st : Int32) : Int32 := if anyLow f (st - 4) n = true then 0 else if sm f n < st * nI n then 0 else 1
theorem i32_nlt {a b : Int32} (h : b ≤ a) : ¬ a < b := by rw [Int32.lt_iff_toInt_lt]; rw [Int32.le_iff_toInt_le] at h; omega
theorem i32_lt {a b : Int32} (h : ¬ b ≤ a) : a < b := by rw [Int32.lt_iff_toInt_lt]; rw [Int32.le_iff_toInt_le] at h; omega
theorem i32_le {a b : Int32} (h : ¬ a < b) : b ≤ a := by rw [Int32.le_iff_toInt_le]; rw [Int32.lt_iff_toInt_lt] at h; omega
theorem i32_nle {a b : Int32} (h : a < b) : ¬ b ≤ a := by rw [Int32.le_iff_toInt_le]; rw [Int32.lt_iff_toInt_lt] at h; omega
/-- one round over the layers: the shares, and how many were taken -/
def srF (g h : Nat → Int32) (lack : Int32) : Nat → (Nat → Int32) × Int32
  | 0 => (h, 0)
  | i + 1 => if (srF g h lack i).2 < lack then (if (srF g h lack i).1 i < g i then (upd (srF g h lack i).1 i ((srF g h lack i).1 i + 1), (srF g h lack i).2 + 1) else srF g h lack i) else srF g h lack i
theorem srF_stop {g h : Nat → Int32} {lack : Int32} {i : Nat} (hs : ¬ (srF g h lack i).2 < lack) : ∀ {n : Nat}, i ≤ n → srF g h lack n = srF g h lack i
  | 0, hi => by have : i = 0 := by omega
                subst this; rfl
  | n + 1, hi => by
    by_cases e : i = n + 1
    · subst e; rfl
    · have ih := srF_stop hs (n := n) (by omega)
      show (if (srF g h lack n).2 < lack then _ else srF g h lack n) = _
      rw [ih, if_neg hs]
/-- the first shares, and what is lacking then -/
def soS (g h : Nat → Int32) (cut all : Int32) : Nat → Nat → Int32
  | 0 => h
  | i + 1 => upd (soS g h cut all i) i (g i * cut / all)
def soL (g : Nat → Int32) (cut all l0 : Int32) : Nat → Int32
  | 0 => l0
  | i + 1 => soL g cut all l0 i - g i * cut / all
/-- rounds, so many at most, while some is lacking -/
def soR (g : Nat → Int32) (n : Nat) : Nat → (Nat → Int32) × Int32 → (Nat → Int32) × Int32
  | 0, x => x
  | r + 1, x => if 0 < (soR g n r x).2 then ((srF g (soR g n r x).1 (soR g n r x).2 n).1, (soR g n r x).2 - (srF g (soR g n r x).1 (soR g n r x).2 n).2) else soR g n r x
theorem soR_stop {g : Nat → Int32} {n : Nat} {x : (Nat → Int32) × Int32} {i : Nat} (hs : ¬ 0 < (soR g n i x).2) : ∀ {r : Nat}, i ≤ r → soR g n r x = soR g n i x
  | 0, hi => by have : i = 0 := by omega
                subst this; rfl
  | r + 1, hi => by
    by_cases e : i = r + 1
    · subst e; rfl
    · have ih := soR_stop hs (r := r) (by omega)
      show (if 0 < (soR g n r x).2 then _ else soR g n r x) = _
      rw [ih, if_neg hs]
def soAll (g h : Nat → Int32) (n cut : Nat) : Nat → Int32 :=
  if sm g n = 0 then h else (soR g n cut (soS g h (nI cut) (sm g n) n, soL g (nI cut) (sm g n) (mn (nI cut) (sm g n)) n)).1
/-- taking the shares away: how many layers are kept, blocks, parts, the charge's parts of blocks -/
def tsF (f g h w : Nat → Int32) : Nat → Nat × (Nat → Int32) × (Nat → Int32) × (Nat → Int32)
  | 0 => (0, f, g, w)
  | i + 1 =>
    if 0 < g i - h i then ((tsF f g h w i).1 + 1, upd (tsF f g h w i).2.1 (tsF f g h w i).1 (f i), upd (tsF f g h w i).2.2.1 (tsF f g h w i).1 (g i - h i), upd (tsF f g h w i).2.2.2 (f i).toNatClampNeg ((tsF f g h w i).2.2.2 (f i).toNatClampNeg + h i))
    else ((tsF f g h w i).1, (tsF f g h w i).2.1, (tsF f g h w i).2.2.1, upd (tsF f g h w i).2.2.2 (f i).toNatClampNeg ((tsF f g h w i).2.2.2 (f i).toNatClampNeg + h i))
theorem tsF_k (f g h w : Nat → Int32) : ∀ i, (tsF f g h w i).1 ≤ i
  | 0 => Nat.le_refl _
  | i + 1 => by
    have := tsF_k f g h w i
    unfold tsF
    split <;> dsimp only <;> omega
theorem tsF_b (f g h w : Nat → Int32) : ∀ i j, i ≤ j → (tsF f g h w i).2.1 j = f j ∧ (tsF f g h w i).2.2.1 j = g j
  | 0, j, _ => ⟨rfl, rfl⟩
  | i + 1, j, hj => by
    have ih := tsF_b f g h w i j (by omega)
    have hk := tsF_k f g h w i
    unfold tsF
    split
    · dsimp only
      rw [pk_un (by omega), pk_un (by omega)]
      exact ih
    · exact ih
set_option maxHeartbeats 4000000 in
set_option maxRecDepth 100000 in
/-- ClinkerWorks$Lot.isFound -/
theorem c_X3_isFound (l : Launch) (G : VG) (t a fo : Nat) (fin gyp sil sag sac : Int32) (h : Nat → Int32) (o : Int32) (i : Nat) (hi : i < 3) (ho : o = nI i) : Mi l G yX3_isFound cX3_isFound 2 .boolean 1 21 0 0 [.ref t, .int o] [[(t, .inr (4, [.ref a, .int fin, .int gyp, .int sil, .int sag, .int sac, .ref fo]))], [(fo, .inl (G.2.1 0, 3, .inl h))]] (fun r u => r = ltGr (h i) ∧ u = [[(t, .inr (4, [.ref a, .int fin, .int gyp, .int sil, .int sag, .int sac, .ref fo]))], [(fo, .inl (G.2.1 0, 3, .inl h))]]) := by
  refine Mi_of (by decide) (Nat.le_of_ble_eq_true rfl) (fun pP eE sS mM aA bB tT cC AA QQ hC hr hnm hQ => ?_)
  subst ho
  refine V_iload_n hC dX3_isFound_0 1 rfl ?_
  refine V_iconst hC dX3_isFound_1 (v := 3) (by decide) ?_
  refine V_calli hC (V_runSN hC (rest := []) (host := "ClinkerWorks") [.int (nI i), .int 3] (c_X8_isIndex l G (nI i) 3) [] rfl (by decide) (nest_mem (by decide +kernel)) q435 q20 q436 ⟨by decide, by decide, rfl⟩ ⟨by decide, by decide⟩ rfl (Nat.le_of_ble_eq_true rfl) ⟨by decide, by decide⟩ dX3_isFound_2) (is := []) rfl [0, 1] (rs := [[(t, .inr (4, [.ref a, .int fin, .int gyp, .int sil, .int sag, .int sac, .ref fo]))], [(fo, .inl (G.2.1 0, 3, .inl h))]]) rfl (by decide) (by decide) ?_
  rintro _ _ ⟨rfl, rfl⟩
  refine V_eqi (y := 1) (ixB_in (N := 3) hi) ?_
  refine V_if_eqF hC dX3_isFound_5 (tgt := 22) (by decide) (by decide) ?_
  refine V_aload_n hC dX3_isFound_8 0 rfl ?_
  refine V_get hC dX3_isFound_9 inAX3 (mem_at 0 0 rfl rfl) rfl 6 (by decide) q239 rfl (v := .ref fo) rfl ?_
  refine V_iload_n hC dX3_isFound_12 1 rfl ?_
  refine V_iald hC dX3_isFound_13 (mem_at 1 0 rfl rfl) (vp_in_nI (by omega) (by omega)) (x := i) (nI_clamp (by omega)) ?_
  refine V_iconst hC dX3_isFound_14 (v := (-1)) (by decide) ?_
  refine V_icmp_eq hC dX3_isFound_15 (tgt := 22) (by decide) (fun h1 => ?_) (fun h1 => ?_)
  · refine V_iconst hC dX3_isFound_22 (v := 0) (by decide) ?_
    exact V_zret hC hQ hr (by decide) [0, 1] (u := [[(t, .inr (4, [.ref a, .int fin, .int gyp, .int sil, .int sag, .int sac, .ref fo]))], [(fo, .inl (G.2.1 0, 3, .inl h))]]) (by decide) rfl (by decide) (by decide) dX3_isFound_23 (⟨by simp_all [ltGr], rfl⟩)
  · refine V_iconst hC dX3_isFound_18 (v := 1) (by decide) ?_
    refine V_goto hC dX3_isFound_19 (tgt := 23) (by decide) ?_
    exact V_zret hC hQ hr (by decide) [0, 1] (u := [[(t, .inr (4, [.ref a, .int fin, .int gyp, .int sil, .int sag, .int sac, .ref fo]))], [(fo, .inl (G.2.1 0, 3, .inl h))]]) (by decide) rfl (by decide) (by decide) dX3_isFound_23 (⟨by simp_all [ltGr], rfl⟩)
set_option maxHeartbeats 4000000 in
set_option maxRecDepth 100000 in
/-- ClinkerWorks$Lot.<init> -/
theorem c_X3_init (l : Launch) (G : VG) (t : Nat) : Mv l G yX3_init cX3_init 1 3 52 5 22 [.ref t] [[(t, .inr (4, [.null, .int 0, .int 0, .int 0, .int 0, .int 0, .null]))]] (fun u => ∃ a fo mi pb am : Nat, u = [[(t, .inr (4, [.ref a, .int (-1), .int (-1), .int (-1), .int 0, .int 0, .ref fo]))], [(fo, .inl (G.2.1 0, 3, .inl (upd (upd (upd (fun _ => 0) 0 (-1)) 1 (-1)) 2 (-1))))], [(a, .inr (2, [.int 0, .ref mi, .ref pb, .int 0, .int 0, .int 0, .int 0, .int 0]))], [(mi, .inr (5, [.ref am]))], [(am, .inl (G.2.1 0, 4, .inl (fun _ => 0)))], [(pb, .inl (G.2.1 0, 6, .inl (fun _ => 0)))]]) := by
  refine Mv_of (by decide) (Nat.le_of_ble_eq_true rfl) (fun pP eE sS mM aA bB tT cC AA QQ hC hr hnm hQ => ?_)
  refine V_aload_n hC dX3_init_0 0 rfl ?_
  refine V_objInit hC q225 q43 q44 dX3_init_1 (by decide) (Nat.le_of_ble_eq_true rfl) ?_
  refine V_aload_n hC dX3_init_4 0 rfl ?_
  refine V_new hC inAX1 tyX1 tyX1_ok (ci := 2) rfl q226 q91 q24 (fs := [.int 0, .null, .null, .int 0, .int 0, .int 0, .int 0, .int 0]) (by decide +kernel) (by decide) (by decide) dX3_init_5 (fun q1 => ?_)
  refine V_dup hC dX3_init_8 rfl ?_
  refine V_callv hC (V_runIN hC (rest := [.ref q1, .ref t]) (host := "ClinkerWorks") [] (c_X1_init l G q1) [1] rfl (by decide) (nest_mem (by decide +kernel)) q93 q24 q94 rfl ⟨by decide, by decide, rfl⟩ ⟨by decide, by decide⟩ rfl (Nat.le_of_ble_eq_true rfl) ⟨by decide, by decide⟩ dX3_init_9) (is := [1]) rfl [0] (rs := [[(t, .inr (4, [.null, .int 0, .int 0, .int 0, .int 0, .int 0, .null]))]]) rfl (by decide) (by decide) ?_
  rintro _ ⟨mi2, pb2, am2, rfl⟩
  refine V_putF hC dX3_init_12 inAX3 tyX3 tyX3_ok nmX3 4 0 rfl rfl rfl 0 (by decide) q228 rfl rfl hnm rfl (rfl) (rfl) (Nat.le_of_ble_eq_true rfl) (ps' := [[(q1, .inr (2, [.int 0, .ref mi2, .ref pb2, .int 0, .int 0, .int 0, .int 0, .int 0]))], [(mi2, .inr (5, [.ref am2]))], [(am2, .inl (G.2.1 0, 4, .inl (fun _ => 0)))], [(pb2, .inl (G.2.1 0, 6, .inl (fun _ => 0)))], [(t, .inr (4, [.ref q1, .int 0, .int 0, .int 0, .int 0, .int 0, .null]))]]) rfl ?_
  refine V_aload_n hC dX3_init_15 0 rfl ?_
  refine V_iconst hC dX3_init_16 (v := (-1)) (by decide) ?_
  refine V_put hC dX3_init_17 inAX3 tyX3 tyX3_ok nmX3 4 0 rfl rfl rfl 1 (by decide) q230 rfl rfl (rfl) (rfl) (Nat.le_of_ble_eq_true rfl) (ps' := [[(q1, .inr (2, [.int 0, .ref mi2, .ref pb2, .int 0, .int 0, .int 0, .int 0, .int 0]))], [(mi2, .inr (5, [.ref am2]))], [(am2, .inl (G.2.1 0, 4, .inl (fun _ => 0)))], [(pb2, .inl (G.2.1 0, 6, .inl (fun _ => 0)))], [(t, .inr (4, [.ref q1, .int (-1), .int 0, .int 0, .int 0, .int 0, .null]))]]) rfl ?_
  refine V_aload_n hC dX3_init_20 0 rfl ?_
  refine V_iconst hC dX3_init_21 (v := (-1)) (by decide) ?_
  refine V_put hC dX3_init_22 inAX3 tyX3 tyX3_ok nmX3 4 0 rfl rfl rfl 2 (by decide) q232 rfl rfl (rfl) (rfl) (Nat.le_of_ble_eq_true rfl) (ps' := [[(q1, .inr (2, [.int 0, .ref mi2, .ref pb2, .int 0, .int 0, .int 0, .int 0, .int 0]))], [(mi2, .inr (5, [.ref am2]))], [(am2, .inl (G.2.1 0, 4, .inl (fun _ => 0)))], [(pb2, .inl (G.2.1 0, 6, .inl (fun _ => 0)))], [(t, .inr (4, [.ref q1, .int (-1), .int (-1), .int 0, .int 0, .int 0, .null]))]]) rfl ?_
  refine V_aload_n hC dX3_init_25 0 rfl ?_
  refine V_iconst hC dX3_init_26 (v := (-1)) (by decide) ?_
  refine V_put hC dX3_init_27 inAX3 tyX3 tyX3_ok nmX3 4 0 rfl rfl rfl 3 (by decide) q234 rfl rfl (rfl) (rfl) (Nat.le_of_ble_eq_true rfl) (ps' := [[(q1, .inr (2, [.int 0, .ref mi2, .ref pb2, .int 0, .int 0, .int 0, .int 0, .int 0]))], [(mi2, .inr (5, [.ref am2]))], [(am2, .inl (G.2.1 0, 4, .inl (fun _ => 0)))], [(pb2, .inl (G.2.1 0, 6, .inl (fun _ => 0)))], [(t, .inr (4, [.ref q1, .int (-1), .int (-1), .int (-1), .int 0, .int 0, .null]))]]) rfl ?_
  refine V_aload_n hC dX3_init_30 0 rfl ?_
  refine V_iconst hC dX3_init_31 (v := 0) (by decide) ?_
  refine V_put hC dX3_init_32 inAX3 tyX3 tyX3_ok nmX3 4 0 rfl rfl rfl 4 (by decide) q236 rfl rfl (rfl) (rfl) (Nat.le_of_ble_eq_true rfl) (ps' := [[(q1, .inr (2, [.int 0, .ref mi2, .ref pb2, .int 0, .int 0, .int 0, .int 0, .int 0]))], [(mi2, .inr (5, [.ref am2]))], [(am2, .inl (G.2.1 0, 4, .inl (fun _ => 0)))], [(pb2, .inl (G.2.1 0, 6, .inl (fun _ => 0)))], [(t, .inr (4, [.ref q1, .int (-1), .int (-1), .int (-1), .int 0, .int 0, .null]))]]) rfl ?_
  refine V_aload_n hC dX3_init_35 0 rfl ?_
  refine V_iconst hC dX3_init_36 (v := 0) (by decide) ?_
  refine V_put hC dX3_init_37 inAX3 tyX3 tyX3_ok nmX3 4 0 rfl rfl rfl 5 (by decide) q237 rfl rfl (rfl) (rfl) (Nat.le_of_ble_eq_true rfl) (ps' := [[(q1, .inr (2, [.int 0, .ref mi2, .ref pb2, .int 0, .int 0, .int 0, .int 0, .int 0]))], [(mi2, .inr (5, [.ref am2]))], [(am2, .inl (G.2.1 0, 4, .inl (fun _ => 0)))], [(pb2, .inl (G.2.1 0, 6, .inl (fun _ => 0)))], [(t, .inr (4, [.ref q1, .int (-1), .int (-1), .int (-1), .int 0, .int 0, .null]))]]) rfl ?_
  refine V_aload_n hC dX3_init_40 0 rfl ?_
  refine V_iconst hC dX3_init_41 (v := 3) (by decide) ?_
  refine V_newa_i hC q70 (N := 3) (by decide) (by decide) (by decide) (by decide) (by decide) dX3_init_42 (fun q3 => ?_)
  refine V_dup hC dX3_init_44 rfl ?_
  refine V_iconst hC dX3_init_45 (v := 0) (by decide) ?_
  refine V_iconst hC dX3_init_46 (v := (-1)) (by decide) ?_
  refine V_iast hC dX3_init_47 5 0 rfl rfl (vin (by decide)) (z := 0) (by decide) (ps' := [[(q1, .inr (2, [.int 0, .ref mi2, .ref pb2, .int 0, .int 0, .int 0, .int 0, .int 0]))], [(mi2, .inr (5, [.ref am2]))], [(am2, .inl (G.2.1 0, 4, .inl (fun _ => 0)))], [(pb2, .inl (G.2.1 0, 6, .inl (fun _ => 0)))], [(t, .inr (4, [.ref q1, .int (-1), .int (-1), .int (-1), .int 0, .int 0, .null]))], [(q3, .inl (G.2.1 0, 3, .inl (upd (fun _ => 0) 0 (-1))))]]) rfl ?_
  refine V_dup hC dX3_init_48 rfl ?_
  refine V_iconst hC dX3_init_49 (v := 1) (by decide) ?_
  refine V_iconst hC dX3_init_50 (v := (-1)) (by decide) ?_
  refine V_iast hC dX3_init_51 5 0 rfl rfl (vin (by decide)) (z := 1) (by decide) (ps' := [[(q1, .inr (2, [.int 0, .ref mi2, .ref pb2, .int 0, .int 0, .int 0, .int 0, .int 0]))], [(mi2, .inr (5, [.ref am2]))], [(am2, .inl (G.2.1 0, 4, .inl (fun _ => 0)))], [(pb2, .inl (G.2.1 0, 6, .inl (fun _ => 0)))], [(t, .inr (4, [.ref q1, .int (-1), .int (-1), .int (-1), .int 0, .int 0, .null]))], [(q3, .inl (G.2.1 0, 3, .inl (upd (upd (fun _ => 0) 0 (-1)) 1 (-1))))]]) rfl ?_
  refine V_dup hC dX3_init_52 rfl ?_
  refine V_iconst hC dX3_init_53 (v := 2) (by decide) ?_
  refine V_iconst hC dX3_init_54 (v := (-1)) (by decide) ?_
  refine V_iast hC dX3_init_55 5 0 rfl rfl (vin (by decide)) (z := 2) (by decide) (ps' := [[(q1, .inr (2, [.int 0, .ref mi2, .ref pb2, .int 0, .int 0, .int 0, .int 0, .int 0]))], [(mi2, .inr (5, [.ref am2]))], [(am2, .inl (G.2.1 0, 4, .inl (fun _ => 0)))], [(pb2, .inl (G.2.1 0, 6, .inl (fun _ => 0)))], [(t, .inr (4, [.ref q1, .int (-1), .int (-1), .int (-1), .int 0, .int 0, .null]))], [(q3, .inl (G.2.1 0, 3, .inl (upd (upd (upd (fun _ => 0) 0 (-1)) 1 (-1)) 2 (-1))))]]) rfl ?_
  refine V_putF hC dX3_init_56 inAX3 tyX3 tyX3_ok nmX3 4 0 rfl rfl rfl 6 (by decide) q239 rfl rfl hnm rfl (rfl) (rfl) (Nat.le_of_ble_eq_true rfl) (ps' := [[(q1, .inr (2, [.int 0, .ref mi2, .ref pb2, .int 0, .int 0, .int 0, .int 0, .int 0]))], [(mi2, .inr (5, [.ref am2]))], [(am2, .inl (G.2.1 0, 4, .inl (fun _ => 0)))], [(pb2, .inl (G.2.1 0, 6, .inl (fun _ => 0)))], [(t, .inr (4, [.ref q1, .int (-1), .int (-1), .int (-1), .int 0, .int 0, .ref q3]))], [(q3, .inl (G.2.1 0, 3, .inl (upd (upd (upd (fun _ => 0) 0 (-1)) 1 (-1)) 2 (-1))))]]) rfl ?_
  exact V_vret hC hQ hr [4, 5, 0, 1, 2, 3] (u := [[(t, .inr (4, [.ref q1, .int (-1), .int (-1), .int (-1), .int 0, .int 0, .ref q3]))], [(q3, .inl (G.2.1 0, 3, .inl (upd (upd (upd (fun _ => 0) 0 (-1)) 1 (-1)) 2 (-1))))], [(q1, .inr (2, [.int 0, .ref mi2, .ref pb2, .int 0, .int 0, .int 0, .int 0, .int 0]))], [(mi2, .inr (5, [.ref am2]))], [(am2, .inl (G.2.1 0, 4, .inl (fun _ => 0)))], [(pb2, .inl (G.2.1 0, 6, .inl (fun _ => 0)))]]) (by decide) rfl (by decide) (by decide) dX3_init_59 (⟨_, _, _, _, _, rfl⟩)
set_option maxHeartbeats 4000000 in
set_option maxRecDepth 100000 in
/-- ClinkerWorks$Silo.<init> -/
theorem c_X6_init (l : Launch) (G : VG) (a : Nat) : Mv l G yX6_init cX6_init 1 1 12 1 12 [.ref a] [[(a, .inr (7, [.null, .int 0, .int 0]))]] (fun u => ∃ lo : Nat, u = [[(a, .inr (7, [.ref lo, .int 0, .int 0]))], [(lo, .inl (G.2.1 0, 12, .inl (fun _ => 0)))]]) := by
  refine Mv_of (by decide) (Nat.le_of_ble_eq_true rfl) (fun pP eE sS mM aA bB tT cC AA QQ hC hr hnm hQ => ?_)
  refine V_aload_n hC dX6_init_0 0 rfl ?_
  refine V_objInit hC q260 q43 q44 dX6_init_1 (by decide) (Nat.le_of_ble_eq_true rfl) ?_
  refine V_aload_n hC dX6_init_4 0 rfl ?_
  refine V_bipush hC dX6_init_5 (v := 12) (by decide) ?_
  refine V_newa_i hC q70 (N := 12) (by decide) (by decide) (by decide) (by decide) (by decide) dX6_init_7 (fun q1 => ?_)
  refine V_putF hC dX6_init_9 inAX6 tyX6 tyX6_ok nmX6 0 0 rfl rfl rfl 0 (by decide) q261 rfl rfl hnm rfl (rfl) (rfl) (Nat.le_of_ble_eq_true rfl) (ps' := [[(a, .inr (7, [.ref q1, .int 0, .int 0]))], [(q1, .inl (G.2.1 0, 12, .inl (fun _ => 0)))]]) rfl ?_
  refine V_aload_n hC dX6_init_12 0 rfl ?_
  refine V_iconst hC dX6_init_13 (v := 0) (by decide) ?_
  refine V_put hC dX6_init_14 inAX6 tyX6 tyX6_ok nmX6 0 0 rfl rfl rfl 1 (by decide) q262 rfl rfl (rfl) (rfl) (Nat.le_of_ble_eq_true rfl) (ps' := [[(a, .inr (7, [.ref q1, .int 0, .int 0]))], [(q1, .inl (G.2.1 0, 12, .inl (fun _ => 0)))]]) rfl ?_
  refine V_aload_n hC dX6_init_17 0 rfl ?_
  refine V_iconst hC dX6_init_18 (v := 0) (by decide) ?_
  refine V_put hC dX6_init_19 inAX6 tyX6 tyX6_ok nmX6 0 0 rfl rfl rfl 2 (by decide) q263 rfl rfl (rfl) (rfl) (Nat.le_of_ble_eq_true rfl) (ps' := [[(a, .inr (7, [.ref q1, .int 0, .int 0]))], [(q1, .inl (G.2.1 0, 12, .inl (fun _ => 0)))]]) rfl ?_
  exact V_vret hC hQ hr [0, 1] (u := [[(a, .inr (7, [.ref q1, .int 0, .int 0]))], [(q1, .inl (G.2.1 0, 12, .inl (fun _ => 0)))]]) (by decide) rfl (by decide) (by decide) dX6_init_22 (⟨_, rfl⟩)
set_option maxHeartbeats 4000000 in
set_option maxRecDepth 100000 in
/-- ClinkerWorks$Silo.lotAt -/
theorem c_X6_lotAt (l : Launch) (G : VG) (a lo : Nat) (n : Nat) (sh : Int32) (f : Nat → Int32) (k : Int32) (hn : n ≤ 12) : Mi l G yX6_lotAt cX6_lotAt 2 .int 1 21 0 0 [.ref a, .int k] [[(a, .inr (7, [.ref lo, .int (nI n), .int sh]))], [(lo, .inl (G.2.1 0, 12, .inl f))]] (fun r u => r = siAt f n k ∧ u = [[(a, .inr (7, [.ref lo, .int (nI n), .int sh]))], [(lo, .inl (G.2.1 0, 12, .inl f))]]) := by
  refine Mi_of (by decide) (Nat.le_of_ble_eq_true rfl) (fun pP eE sS mM aA bB tT cC AA QQ hC hr hnm hQ => ?_)
  refine V_iload_n hC dX6_lotAt_0 1 rfl ?_
  refine V_aload_n hC dX6_lotAt_1 0 rfl ?_
  refine V_get hC dX6_lotAt_2 inAX6 (mem_at 0 0 rfl rfl) rfl 1 (by decide) q262 rfl (v := .int (nI n)) rfl ?_
  refine V_calli hC (V_runSN hC (rest := []) (host := "ClinkerWorks") [.int k, .int (nI n)] (c_X8_isIndex l G k (nI n)) [] rfl (by decide) (nest_mem (by decide +kernel)) q435 q20 q436 ⟨by decide, by decide, rfl⟩ ⟨by decide, by decide⟩ rfl (Nat.le_of_ble_eq_true rfl) ⟨by decide, by decide⟩ dX6_lotAt_5) (is := []) rfl [0, 1] (rs := [[(a, .inr (7, [.ref lo, .int (nI n), .int sh]))], [(lo, .inl (G.2.1 0, 12, .inl f))]]) rfl (by decide) (by decide) ?_
  rintro _ _ ⟨rfl, rfl⟩
  refine V_if_eq hC dX6_lotAt_8 (tgt := 20) (by decide) (fun h1 => ?_) (fun h1 => ?_)
  · refine V_iconst hC dX6_lotAt_20 (v := (-1)) (by decide) ?_
    exact V_iret hC hQ hr [0, 1] (u := [[(a, .inr (7, [.ref lo, .int (nI n), .int sh]))], [(lo, .inl (G.2.1 0, 12, .inl f))]]) (by decide) rfl (by decide) (by decide) dX6_lotAt_21 (⟨by simp_all [siAt], rfl⟩)
  · refine V_aload_n hC dX6_lotAt_11 0 rfl ?_
    refine V_get hC dX6_lotAt_12 inAX6 (mem_at 0 0 rfl rfl) rfl 0 (by decide) q261 rfl (v := .ref lo) rfl ?_
    refine V_iload_n hC dX6_lotAt_15 1 rfl ?_
    refine V_iald hC dX6_lotAt_16 (mem_at 1 0 rfl rfl) (ixB_vin h1 hn) (x := k.toNatClampNeg) (rfl) ?_
    refine V_goto hC dX6_lotAt_17 (tgt := 21) (by decide) ?_
    exact V_iret hC hQ hr [0, 1] (u := [[(a, .inr (7, [.ref lo, .int (nI n), .int sh]))], [(lo, .inl (G.2.1 0, 12, .inl f))]]) (by decide) rfl (by decide) (by decide) dX6_lotAt_21 (⟨by simp_all [siAt], rfl⟩)
set_option maxHeartbeats 4000000 in
set_option maxRecDepth 100000 in
/-- ClinkerWorks$Window.<init> -/
theorem c_X7_init (l : Launch) (G : VG) (a : Nat) : Mv l G yX7_init cX7_init 1 1 12 1 6 [.ref a] [[(a, .inr (8, [.null, .int 0, .int 0]))]] (fun u => ∃ so : Nat, u = [[(a, .inr (8, [.ref so, .int 0, .int 6]))], [(so, .inl (G.2.1 0, 6, .inl (fun _ => 0)))]]) := by
  refine Mv_of (by decide) (Nat.le_of_ble_eq_true rfl) (fun pP eE sS mM aA bB tT cC AA QQ hC hr hnm hQ => ?_)
  refine V_aload_n hC dX7_init_0 0 rfl ?_
  refine V_objInit hC q191 q43 q44 dX7_init_1 (by decide) (Nat.le_of_ble_eq_true rfl) ?_
  refine V_aload_n hC dX7_init_4 0 rfl ?_
  refine V_bipush hC dX7_init_5 (v := 6) (by decide) ?_
  refine V_newa_i hC q70 (N := 6) (by decide) (by decide) (by decide) (by decide) (by decide) dX7_init_7 (fun q1 => ?_)
  refine V_putF hC dX7_init_9 inAX7 tyX7 tyX7_ok nmX7 0 0 rfl rfl rfl 0 (by decide) q192 rfl rfl hnm rfl (rfl) (rfl) (Nat.le_of_ble_eq_true rfl) (ps' := [[(a, .inr (8, [.ref q1, .int 0, .int 0]))], [(q1, .inl (G.2.1 0, 6, .inl (fun _ => 0)))]]) rfl ?_
  refine V_aload_n hC dX7_init_12 0 rfl ?_
  refine V_iconst hC dX7_init_13 (v := 0) (by decide) ?_
  refine V_put hC dX7_init_14 inAX7 tyX7 tyX7_ok nmX7 0 0 rfl rfl rfl 1 (by decide) q193 rfl rfl (rfl) (rfl) (Nat.le_of_ble_eq_true rfl) (ps' := [[(a, .inr (8, [.ref q1, .int 0, .int 0]))], [(q1, .inl (G.2.1 0, 6, .inl (fun _ => 0)))]]) rfl ?_
  refine V_aload_n hC dX7_init_17 0 rfl ?_
  refine V_bipush hC dX7_init_18 (v := 6) (by decide) ?_
  refine V_put hC dX7_init_20 inAX7 tyX7 tyX7_ok nmX7 0 0 rfl rfl rfl 2 (by decide) q195 rfl rfl (rfl) (rfl) (Nat.le_of_ble_eq_true rfl) (ps' := [[(a, .inr (8, [.ref q1, .int 0, .int 6]))], [(q1, .inl (G.2.1 0, 6, .inl (fun _ => 0)))]]) rfl ?_
  exact V_vret hC hQ hr [0, 1] (u := [[(a, .inr (8, [.ref q1, .int 0, .int 6]))], [(q1, .inl (G.2.1 0, 6, .inl (fun _ => 0)))]]) (by decide) rfl (by decide) (by decide) dX7_init_23 (⟨_, rfl⟩)
set_option maxHeartbeats 4000000 in
set_option maxRecDepth 100000 in
/-- ClinkerWorks$Window.sum -/
theorem c_X7_sum (l : Launch) (G : VG) (a so n : Nat) (std : Int32) (f : Nat → Int32) (hn : n ≤ 6) : Mi l G yX7_sum cX7_sum 3 .int 0 0 0 0 [.ref a] [[(a, .inr (8, [.ref so, .int (nI n), .int std]))], [(so, .inl (G.2.1 0, 6, .inl f))]] (fun r u => r = sm f n ∧ u = [[(a, .inr (8, [.ref so, .int (nI n), .int std]))], [(so, .inl (G.2.1 0, 6, .inl f))]]) := by
  refine Mi_of (by decide) (Nat.le_of_ble_eq_true rfl) (fun pP eE sS mM aA bB tT cC AA QQ hC hr hnm hQ => ?_)
  refine V_iconst hC dX7_sum_0 (v := 0) (by decide) ?_
  refine V_istore_n hC dX7_sum_1 (L' := [(1, .int 0), (0, .ref a)]) (by decide) rfl ?_
  refine V_iconst hC dX7_sum_2 (v := 0) (by decide) ?_
  refine V_istore_n hC dX7_sum_3 (L' := [(2, .int 0), (1, .int 0), (0, .ref a)]) (by decide) rfl ?_
  have loop1 : ∀ (fuel : Nat) (i : Nat) (hi : i ≤ n) (_ : n - i < fuel), V pP l eE { frames := 0, cells := 0, slots := 0, locals := 0 } sS mM aA bB tT cC QQ G AA 3 [[(a, .inr (8, [.ref so, .int (nI n), .int std]))], [(so, .inl (G.2.1 0, 6, .inl f))]] 0 0 4 [(0, .ref a), (1, .int (sm f i)), (2, .int (nI i))] [] := by
    intro fuel
    induction fuel with
    | zero => intro i hi hm; exact absurd hm (Nat.not_lt_zero _)
    | succ fuel ih =>
      intro i hi hm
      refine V_iload_n hC dX7_sum_4 2 rfl ?_
      refine V_aload_n hC dX7_sum_5 0 rfl ?_
      refine V_get hC dX7_sum_6 inAX7 (mem_at 0 0 rfl rfl) rfl 1 (by decide) q193 rfl (v := .int (nI n)) rfl ?_
      refine V_icmp_ge hC dX7_sum_9 (tgt := 27) (by decide) (fun h2 => ?_) (fun h2 => ?_)
      · have he : i = n := by have := nle h2; omega
        rw [he]
        refine V_iload_n hC dX7_sum_27 1 rfl ?_
        exact V_iret hC hQ hr [0, 1] (u := [[(a, .inr (8, [.ref so, .int (nI n), .int std]))], [(so, .inl (G.2.1 0, 6, .inl f))]]) (by decide) rfl (by decide) (by decide) dX7_sum_28 (⟨rfl, rfl⟩)
      · have hlt := nnle h2
        refine V_iload_n hC dX7_sum_12 1 rfl ?_
        refine V_aload_n hC dX7_sum_13 0 rfl ?_
        refine V_get hC dX7_sum_14 inAX7 (mem_at 0 0 rfl rfl) rfl 0 (by decide) q192 rfl (v := .ref so) rfl ?_
        refine V_iload_n hC dX7_sum_17 2 rfl ?_
        refine V_iald hC dX7_sum_18 (mem_at 1 0 rfl rfl) (vp_in_nI (by omega) (by omega)) (x := i) (nI_clamp (by omega)) ?_
        refine V_iadd hC dX7_sum_19 ?_
        refine V_istore_n hC dX7_sum_20 (L' := [(1, .int ((sm f i) + (f i))), (0, .ref a), (2, .int (nI i))]) (by decide) rfl ?_
        refine V_iinc hC dX7_sum_21 (v := nI (i + 1)) (L' := [(2, .int (nI (i + 1))), (1, .int ((sm f i) + (f i))), (0, .ref a)]) (j := 2) rfl (nI_1 _) (by decide) rfl ?_
        refine V_goto hC dX7_sum_24 (tgt := 4) (by decide) ?_
        refine V_loc (L' := [(0, .ref a), (1, .int ((sm f i) + (f i))), (2, .int (nI (i + 1)))]) [2, 1, 0] rfl ?_
        exact ih (i + 1) (by omega) (by omega)
  refine V_loc (L' := [(0, .ref a), (1, .int 0), (2, .int 0)]) [2, 1, 0] rfl ?_
  exact loop1 (n + 1) 0 (Nat.zero_le _) (by omega)
set_option maxHeartbeats 4000000 in
set_option maxRecDepth 100000 in
/-- ClinkerWorks$Window.holds -/
theorem c_X7_holds (l : Launch) (G : VG) (a so n : Nat) (std : Int32) (f : Nat → Int32) (hn : n ≤ 6) : Mi l G yX7_holds cX7_holds 2 .boolean 1 22 0 0 [.ref a] [[(a, .inr (8, [.ref so, .int (nI n), .int std]))], [(so, .inl (G.2.1 0, 6, .inl f))]] (fun r u => r = wiHolds f n std ∧ u = [[(a, .inr (8, [.ref so, .int (nI n), .int std]))], [(so, .inl (G.2.1 0, 6, .inl f))]]) := by
  refine Mi_of (by decide) (Nat.le_of_ble_eq_true rfl) (fun pP eE sS mM aA bB tT cC AA QQ hC hr hnm hQ => ?_)
  refine V_iconst hC dX7_holds_0 (v := 0) (by decide) ?_
  refine V_istore_n hC dX7_holds_1 (L' := [(1, .int 0), (0, .ref a)]) (by decide) rfl ?_
  have loop1 : ∀ (fuel : Nat) (i : Nat) (hi : i ≤ n) (ha : anyLow f (std - 4) i = false) (_ : n - i < fuel), V pP l eE { frames := 1, cells := 0, slots := 0, locals := 22 } sS mM aA bB tT cC QQ G AA 2 [[(a, .inr (8, [.ref so, .int (nI n), .int std]))], [(so, .inl (G.2.1 0, 6, .inl f))]] 0 0 2 [(0, .ref a), (1, .int (nI i))] [] := by
    intro fuel
    induction fuel with
    | zero => intro i hi ha hm; exact absurd hm (Nat.not_lt_zero _)
    | succ fuel ih =>
      intro i hi ha hm
      refine V_iload_n hC dX7_holds_2 1 rfl ?_
      refine V_aload_n hC dX7_holds_3 0 rfl ?_
      refine V_get hC dX7_holds_4 inAX7 (mem_at 0 0 rfl rfl) rfl 1 (by decide) q193 rfl (v := .int (nI n)) rfl ?_
      refine V_icmp_ge hC dX7_holds_7 (tgt := 33) (by decide) (fun h2 => ?_) (fun h2 => ?_)
      · have he : i = n := by have := nle h2; omega
        rw [he] at ha
        refine V_aload_n hC dX7_holds_33 0 rfl ?_
        refine V_calli hC (V_runV hC (rest := []) [] (c_X7_sum l G a so n std f hn) [0, 1] rfl (by decide) q703 q704 q705 q25 q706 ⟨by decide, by decide, rfl⟩ ⟨by decide, by decide⟩ (ci := 8) rfl (mem_at 0 0 rfl rfl) rfl (Nat.le_of_ble_eq_true rfl) ⟨by decide, by decide⟩ dX7_holds_34) (is := [0, 1]) rfl [] (rs := []) rfl (by decide) (by decide) ?_
        rintro _ _ ⟨rfl, rfl⟩
        refine V_aload_n hC dX7_holds_37 0 rfl ?_
        refine V_get hC dX7_holds_38 inAX7 (mem_at 0 0 rfl rfl) rfl 2 (by decide) q195 rfl (v := .int std) rfl ?_
        refine V_aload_n hC dX7_holds_41 0 rfl ?_
        refine V_get hC dX7_holds_42 inAX7 (mem_at 0 0 rfl rfl) rfl 1 (by decide) q193 rfl (v := .int (nI n)) rfl ?_
        refine V_imul hC dX7_holds_45 ?_
        refine V_icmp_lt hC dX7_holds_46 (tgt := 53) (by decide) (fun h3 => ?_) (fun h3 => ?_)
        · refine V_iconst hC dX7_holds_53 (v := 0) (by decide) ?_
          exact V_zret hC hQ hr (by decide) [0, 1] (u := [[(a, .inr (8, [.ref so, .int (nI n), .int std]))], [(so, .inl (G.2.1 0, 6, .inl f))]]) (by decide) rfl (by decide) (by decide) dX7_holds_54 (⟨by unfold wiHolds; first | rw [if_pos hb] | (rw [if_neg (by simp [ha])]; first | rw [if_pos (by assumption)] | rw [if_neg (by assumption)] | rw [if_neg (i32_nlt (by assumption))]), rfl⟩)
        · refine V_iconst hC dX7_holds_49 (v := 1) (by decide) ?_
          refine V_goto hC dX7_holds_50 (tgt := 54) (by decide) ?_
          exact V_zret hC hQ hr (by decide) [0, 1] (u := [[(a, .inr (8, [.ref so, .int (nI n), .int std]))], [(so, .inl (G.2.1 0, 6, .inl f))]]) (by decide) rfl (by decide) (by decide) dX7_holds_54 (⟨by unfold wiHolds; first | rw [if_pos hb] | (rw [if_neg (by simp [ha])]; first | rw [if_pos (by assumption)] | rw [if_neg (by assumption)] | rw [if_neg (i32_nlt (by assumption))]), rfl⟩)
      · have hlt := nnle h2
        refine V_aload_n hC dX7_holds_10 0 rfl ?_
        refine V_get hC dX7_holds_11 inAX7 (mem_at 0 0 rfl rfl) rfl 0 (by decide) q192 rfl (v := .ref so) rfl ?_
        refine V_iload_n hC dX7_holds_14 1 rfl ?_
        refine V_iald hC dX7_holds_15 (mem_at 1 0 rfl rfl) (vp_in_nI (by omega) (by omega)) (x := i) (nI_clamp (by omega)) ?_
        refine V_aload_n hC dX7_holds_16 0 rfl ?_
        refine V_get hC dX7_holds_17 inAX7 (mem_at 0 0 rfl rfl) rfl 2 (by decide) q195 rfl (v := .int std) rfl ?_
        refine V_iconst hC dX7_holds_20 (v := 4) (by decide) ?_
        refine V_isub hC dX7_holds_21 ?_
        refine V_icmp_ge hC dX7_holds_22 (tgt := 27) (by decide) (fun h4 => ?_) (fun h4 => ?_)
        · refine V_iinc hC dX7_holds_27 (v := nI (i + 1)) (L' := [(1, .int (nI (i + 1))), (0, .ref a)]) (j := 1) rfl (nI_1 _) (by decide) rfl ?_
          refine V_goto hC dX7_holds_30 (tgt := 2) (by decide) ?_
          refine V_loc (L' := [(0, .ref a), (1, .int (nI (i + 1)))]) [1, 0] rfl ?_
          exact ih (i + 1) (by omega) (anyLow_step ha (i32_nlt h4)) (by omega)
        · have hb := anyLow_of (i32_lt h4) hlt
          refine V_iconst hC dX7_holds_25 (v := 0) (by decide) ?_
          exact V_zret hC hQ hr (by decide) [0, 1] (u := [[(a, .inr (8, [.ref so, .int (nI n), .int std]))], [(so, .inl (G.2.1 0, 6, .inl f))]]) (by decide) rfl (by decide) (by decide) dX7_holds_26 (⟨by unfold wiHolds; first | rw [if_pos hb] | (rw [if_neg (by simp [ha])]; first | rw [if_pos (by assumption)] | rw [if_neg (by assumption)] | rw [if_neg (i32_nlt (by assumption))]), rfl⟩)
  refine V_loc (L' := [(0, .ref a), (1, .int 0)]) [1, 0] rfl ?_
  exact loop1 (n + 1) 0 (Nat.zero_le _) rfl (by omega)
set_option maxHeartbeats 4000000 in
set_option maxRecDepth 100000 in
/-- ClinkerWorks$Pile.<init> -/
theorem c_X5_init (l : Launch) (G : VG) (a : Nat) : Mv l G yX5_init cX5_init 1 1 12 3 24 [.ref a] [[(a, .inr (6, [.int 0, .null, .null, .null]))]] (fun u => ∃ bo pa so : Nat, u = [[(a, .inr (6, [.int 0, .ref bo, .ref pa, .ref so]))], [(bo, .inl (G.2.1 0, 8, .inl (fun _ => 0)))], [(pa, .inl (G.2.1 0, 8, .inl (fun _ => 0)))], [(so, .inl (G.2.1 0, 8, .inl (fun _ => 0)))]]) := by
  refine Mv_of (by decide) (Nat.le_of_ble_eq_true rfl) (fun pP eE sS mM aA bB tT cC AA QQ hC hr hnm hQ => ?_)
  refine V_aload_n hC dX5_init_0 0 rfl ?_
  refine V_objInit hC q52 q43 q44 dX5_init_1 (by decide) (Nat.le_of_ble_eq_true rfl) ?_
  refine V_aload_n hC dX5_init_4 0 rfl ?_
  refine V_iconst hC dX5_init_5 (v := 0) (by decide) ?_
  refine V_put hC dX5_init_6 inAX5 tyX5 tyX5_ok nmX5 0 0 rfl rfl rfl 0 (by decide) q53 rfl rfl (rfl) (rfl) (Nat.le_of_ble_eq_true rfl) (ps' := [[(a, .inr (6, [.int 0, .null, .null, .null]))]]) rfl ?_
  refine V_aload_n hC dX5_init_9 0 rfl ?_
  refine V_bipush hC dX5_init_10 (v := 8) (by decide) ?_
  refine V_newa_i hC q70 (N := 8) (by decide) (by decide) (by decide) (by decide) (by decide) dX5_init_12 (fun q1 => ?_)
  refine V_putF hC dX5_init_14 inAX5 tyX5 tyX5_ok nmX5 0 0 rfl rfl rfl 1 (by decide) q55 rfl rfl hnm rfl (rfl) (rfl) (Nat.le_of_ble_eq_true rfl) (ps' := [[(a, .inr (6, [.int 0, .ref q1, .null, .null]))], [(q1, .inl (G.2.1 0, 8, .inl (fun _ => 0)))]]) rfl ?_
  refine V_aload_n hC dX5_init_17 0 rfl ?_
  refine V_bipush hC dX5_init_18 (v := 8) (by decide) ?_
  refine V_newa_i hC q70 (N := 8) (by decide) (by decide) (by decide) (by decide) (by decide) dX5_init_20 (fun q2 => ?_)
  refine V_putF hC dX5_init_22 inAX5 tyX5 tyX5_ok nmX5 0 0 rfl rfl rfl 2 (by decide) q57 rfl rfl hnm rfl (rfl) (rfl) (Nat.le_of_ble_eq_true rfl) (ps' := [[(a, .inr (6, [.int 0, .ref q1, .ref q2, .null]))], [(q1, .inl (G.2.1 0, 8, .inl (fun _ => 0)))], [(q2, .inl (G.2.1 0, 8, .inl (fun _ => 0)))]]) rfl ?_
  refine V_aload_n hC dX5_init_25 0 rfl ?_
  refine V_bipush hC dX5_init_26 (v := 8) (by decide) ?_
  refine V_newa_i hC q70 (N := 8) (by decide) (by decide) (by decide) (by decide) (by decide) dX5_init_28 (fun q3 => ?_)
  refine V_putF hC dX5_init_30 inAX5 tyX5 tyX5_ok nmX5 0 0 rfl rfl rfl 3 (by decide) q59 rfl rfl hnm rfl (rfl) (rfl) (Nat.le_of_ble_eq_true rfl) (ps' := [[(a, .inr (6, [.int 0, .ref q1, .ref q2, .ref q3]))], [(q1, .inl (G.2.1 0, 8, .inl (fun _ => 0)))], [(q2, .inl (G.2.1 0, 8, .inl (fun _ => 0)))], [(q3, .inl (G.2.1 0, 8, .inl (fun _ => 0)))]]) rfl ?_
  exact V_vret hC hQ hr [0, 1, 2, 3] (u := [[(a, .inr (6, [.int 0, .ref q1, .ref q2, .ref q3]))], [(q1, .inl (G.2.1 0, 8, .inl (fun _ => 0)))], [(q2, .inl (G.2.1 0, 8, .inl (fun _ => 0)))], [(q3, .inl (G.2.1 0, 8, .inl (fun _ => 0)))]]) (by decide) rfl (by decide) (by decide) dX5_init_33 (⟨_, _, _, rfl⟩)
set_option maxHeartbeats 4000000 in
set_option maxRecDepth 100000 in
/-- ClinkerWorks$Pile.isFull -/
theorem c_X5_isFull (l : Launch) (G : VG) (a bo pa so n : Nat) (f g h : Nat → Int32) : Mi l G yX5_isFull cX5_isFull 1 .boolean 0 0 0 0 [.ref a] [[(a, .inr (6, [.int (nI n), .ref bo, .ref pa, .ref so]))], [(bo, .inl (G.2.1 0, 8, .inl f))], [(pa, .inl (G.2.1 0, 8, .inl g))], [(so, .inl (G.2.1 0, 8, .inl h))]] (fun r u => r = (if nI n < 8 then 0 else 1) ∧ u = [[(a, .inr (6, [.int (nI n), .ref bo, .ref pa, .ref so]))], [(bo, .inl (G.2.1 0, 8, .inl f))], [(pa, .inl (G.2.1 0, 8, .inl g))], [(so, .inl (G.2.1 0, 8, .inl h))]]) := by
  refine Mi_of (by decide) (Nat.le_of_ble_eq_true rfl) (fun pP eE sS mM aA bB tT cC AA QQ hC hr hnm hQ => ?_)
  refine V_aload_n hC dX5_isFull_0 0 rfl ?_
  refine V_get hC dX5_isFull_1 inAX5 (mem_at 0 0 rfl rfl) rfl 0 (by decide) q53 rfl (v := .int (nI n)) rfl ?_
  refine V_bipush hC dX5_isFull_4 (v := 8) (by decide) ?_
  refine V_icmp_lt hC dX5_isFull_6 (tgt := 13) (by decide) (fun h1 => ?_) (fun h1 => ?_)
  · refine V_iconst hC dX5_isFull_13 (v := 0) (by decide) ?_
    exact V_zret hC hQ hr (by decide) [0, 1, 2, 3] (u := [[(a, .inr (6, [.int (nI n), .ref bo, .ref pa, .ref so]))], [(bo, .inl (G.2.1 0, 8, .inl f))], [(pa, .inl (G.2.1 0, 8, .inl g))], [(so, .inl (G.2.1 0, 8, .inl h))]]) (by decide) rfl (by decide) (by decide) dX5_isFull_14 (⟨by first | rw [if_pos (by assumption)] | rw [if_neg (i32_nlt (by assumption))] | rw [if_neg (by assumption)], rfl⟩)
  · refine V_iconst hC dX5_isFull_9 (v := 1) (by decide) ?_
    refine V_goto hC dX5_isFull_10 (tgt := 14) (by decide) ?_
    exact V_zret hC hQ hr (by decide) [0, 1, 2, 3] (u := [[(a, .inr (6, [.int (nI n), .ref bo, .ref pa, .ref so]))], [(bo, .inl (G.2.1 0, 8, .inl f))], [(pa, .inl (G.2.1 0, 8, .inl g))], [(so, .inl (G.2.1 0, 8, .inl h))]]) (by decide) rfl (by decide) (by decide) dX5_isFull_14 (⟨by first | rw [if_pos (by assumption)] | rw [if_neg (i32_nlt (by assumption))] | rw [if_neg (by assumption)], rfl⟩)
set_option maxHeartbeats 4000000 in
set_option maxRecDepth 100000 in
/-- ClinkerWorks$Pile.total -/
theorem c_X5_total (l : Launch) (G : VG) (a bo pa so n : Nat) (f g h : Nat → Int32) (hn : n ≤ 8) : Mi l G yX5_total cX5_total 3 .int 0 0 0 0 [.ref a] [[(a, .inr (6, [.int (nI n), .ref bo, .ref pa, .ref so]))], [(bo, .inl (G.2.1 0, 8, .inl f))], [(pa, .inl (G.2.1 0, 8, .inl g))], [(so, .inl (G.2.1 0, 8, .inl h))]] (fun r u => r = sm g n ∧ u = [[(a, .inr (6, [.int (nI n), .ref bo, .ref pa, .ref so]))], [(bo, .inl (G.2.1 0, 8, .inl f))], [(pa, .inl (G.2.1 0, 8, .inl g))], [(so, .inl (G.2.1 0, 8, .inl h))]]) := by
  refine Mi_of (by decide) (Nat.le_of_ble_eq_true rfl) (fun pP eE sS mM aA bB tT cC AA QQ hC hr hnm hQ => ?_)
  refine V_iconst hC dX5_total_0 (v := 0) (by decide) ?_
  refine V_istore_n hC dX5_total_1 (L' := [(1, .int 0), (0, .ref a)]) (by decide) rfl ?_
  refine V_iconst hC dX5_total_2 (v := 0) (by decide) ?_
  refine V_istore_n hC dX5_total_3 (L' := [(2, .int 0), (1, .int 0), (0, .ref a)]) (by decide) rfl ?_
  have loop1 : ∀ (fuel : Nat) (i : Nat) (hi : i ≤ n) (_ : n - i < fuel), V pP l eE { frames := 0, cells := 0, slots := 0, locals := 0 } sS mM aA bB tT cC QQ G AA 3 [[(a, .inr (6, [.int (nI n), .ref bo, .ref pa, .ref so]))], [(bo, .inl (G.2.1 0, 8, .inl f))], [(pa, .inl (G.2.1 0, 8, .inl g))], [(so, .inl (G.2.1 0, 8, .inl h))]] 0 0 4 [(0, .ref a), (1, .int (sm g i)), (2, .int (nI i))] [] := by
    intro fuel
    induction fuel with
    | zero => intro i hi hm; exact absurd hm (Nat.not_lt_zero _)
    | succ fuel ih =>
      intro i hi hm
      refine V_iload_n hC dX5_total_4 2 rfl ?_
      refine V_aload_n hC dX5_total_5 0 rfl ?_
      refine V_get hC dX5_total_6 inAX5 (mem_at 0 0 rfl rfl) rfl 0 (by decide) q53 rfl (v := .int (nI n)) rfl ?_
      refine V_icmp_ge hC dX5_total_9 (tgt := 27) (by decide) (fun h2 => ?_) (fun h2 => ?_)
      · have he : i = n := by have := nle h2; omega
        rw [he]
        refine V_iload_n hC dX5_total_27 1 rfl ?_
        exact V_iret hC hQ hr [0, 1, 2, 3] (u := [[(a, .inr (6, [.int (nI n), .ref bo, .ref pa, .ref so]))], [(bo, .inl (G.2.1 0, 8, .inl f))], [(pa, .inl (G.2.1 0, 8, .inl g))], [(so, .inl (G.2.1 0, 8, .inl h))]]) (by decide) rfl (by decide) (by decide) dX5_total_28 (⟨rfl, rfl⟩)
      · have hlt := nnle h2
        refine V_iload_n hC dX5_total_12 1 rfl ?_
        refine V_aload_n hC dX5_total_13 0 rfl ?_
        refine V_get hC dX5_total_14 inAX5 (mem_at 0 0 rfl rfl) rfl 2 (by decide) q57 rfl (v := .ref pa) rfl ?_
        refine V_iload_n hC dX5_total_17 2 rfl ?_
        refine V_iald hC dX5_total_18 (mem_at 2 0 rfl rfl) (vp_in_nI (by omega) (by omega)) (x := i) (nI_clamp (by omega)) ?_
        refine V_iadd hC dX5_total_19 ?_
        refine V_istore_n hC dX5_total_20 (L' := [(1, .int ((sm g i) + (g i))), (0, .ref a), (2, .int (nI i))]) (by decide) rfl ?_
        refine V_iinc hC dX5_total_21 (v := nI (i + 1)) (L' := [(2, .int (nI (i + 1))), (1, .int ((sm g i) + (g i))), (0, .ref a)]) (j := 2) rfl (nI_1 _) (by decide) rfl ?_
        refine V_goto hC dX5_total_24 (tgt := 4) (by decide) ?_
        refine V_loc (L' := [(0, .ref a), (1, .int ((sm g i) + (g i))), (2, .int (nI (i + 1)))]) [2, 1, 0] rfl ?_
        exact ih (i + 1) (by omega) (by omega)
  refine V_loc (L' := [(0, .ref a), (1, .int 0), (2, .int 0)]) [2, 1, 0] rfl ?_
  exact loop1 (n + 1) 0 (Nat.zero_le _) (by omega)
set_option maxHeartbeats 4000000 in
set_option maxRecDepth 100000 in
/-- ClinkerWorks$Pile.addLayer -/
theorem c_X5_addLayer (l : Launch) (G : VG) (a bo pa so n : Nat) (f g h : Nat → Int32) (x y : Int32) (hn : n < 8) : Mv l G yX5_addLayer cX5_addLayer 3 1 20 0 0 [.ref a, .int x, .int y] [[(a, .inr (6, [.int (nI n), .ref bo, .ref pa, .ref so]))], [(bo, .inl (G.2.1 0, 8, .inl f))], [(pa, .inl (G.2.1 0, 8, .inl g))], [(so, .inl (G.2.1 0, 8, .inl h))]] (fun u => u = [[(a, .inr (6, [.int (nI (n + 1)), .ref bo, .ref pa, .ref so]))], [(bo, .inl (G.2.1 0, 8, .inl (upd f n x)))], [(pa, .inl (G.2.1 0, 8, .inl (upd g n y)))], [(so, .inl (G.2.1 0, 8, .inl h))]]) := by
  refine Mv_of (by decide) (Nat.le_of_ble_eq_true rfl) (fun pP eE sS mM aA bB tT cC AA QQ hC hr hnm hQ => ?_)
  refine V_aload_n hC dX5_addLayer_0 0 rfl ?_
  refine V_calli hC (V_runV hC (rest := []) [] (c_X5_isFull l G a bo pa so n f g h) [0, 1, 2, 3] rfl (by decide) q826 q817 q818 q21 q819 ⟨by decide, by decide, rfl⟩ ⟨by decide, by decide⟩ (ci := 6) rfl (mem_at 0 0 rfl rfl) rfl (Nat.le_of_ble_eq_true rfl) ⟨by decide, by decide⟩ dX5_addLayer_1) (is := [0, 1, 2, 3]) rfl [] (rs := []) rfl (by decide) (by decide) ?_
  rintro _ _ ⟨rfl, rfl⟩
  refine V_eqi (y := 0) (if_pos (show nI n < nI 8 from nI_lt hn (by omega))) ?_
  refine V_if_eqT hC dX5_addLayer_4 (tgt := 8) (by decide) (by decide) ?_
  refine V_aload_n hC dX5_addLayer_8 0 rfl ?_
  refine V_get hC dX5_addLayer_9 inAX5 (mem_at 0 0 rfl rfl) rfl 1 (by decide) q55 rfl (v := .ref bo) rfl ?_
  refine V_aload_n hC dX5_addLayer_12 0 rfl ?_
  refine V_get hC dX5_addLayer_13 inAX5 (mem_at 0 0 rfl rfl) rfl 0 (by decide) q53 rfl (v := .int (nI n)) rfl ?_
  refine V_iload_n hC dX5_addLayer_16 1 rfl ?_
  refine V_iast hC dX5_addLayer_17 1 0 rfl rfl (vp_in_nI (by omega) (by omega)) (z := n) (nI_clamp (by omega)) (ps' := [[(a, .inr (6, [.int (nI n), .ref bo, .ref pa, .ref so]))], [(bo, .inl (G.2.1 0, 8, .inl (upd f n x)))], [(pa, .inl (G.2.1 0, 8, .inl g))], [(so, .inl (G.2.1 0, 8, .inl h))]]) rfl ?_
  refine V_aload_n hC dX5_addLayer_18 0 rfl ?_
  refine V_get hC dX5_addLayer_19 inAX5 (mem_at 0 0 rfl rfl) rfl 2 (by decide) q57 rfl (v := .ref pa) rfl ?_
  refine V_aload_n hC dX5_addLayer_22 0 rfl ?_
  refine V_get hC dX5_addLayer_23 inAX5 (mem_at 0 0 rfl rfl) rfl 0 (by decide) q53 rfl (v := .int (nI n)) rfl ?_
  refine V_iload_n hC dX5_addLayer_26 2 rfl ?_
  refine V_iast hC dX5_addLayer_27 2 0 rfl rfl (vp_in_nI (by omega) (by omega)) (z := n) (nI_clamp (by omega)) (ps' := [[(a, .inr (6, [.int (nI n), .ref bo, .ref pa, .ref so]))], [(bo, .inl (G.2.1 0, 8, .inl (upd f n x)))], [(pa, .inl (G.2.1 0, 8, .inl (upd g n y)))], [(so, .inl (G.2.1 0, 8, .inl h))]]) rfl ?_
  refine V_aload_n hC dX5_addLayer_28 0 rfl ?_
  refine V_dup hC dX5_addLayer_29 rfl ?_
  refine V_get hC dX5_addLayer_30 inAX5 (mem_at 0 0 rfl rfl) rfl 0 (by decide) q53 rfl (v := .int (nI n)) rfl ?_
  refine V_iconst hC dX5_addLayer_33 (v := 1) (by decide) ?_
  refine V_iadd hC dX5_addLayer_34 ?_
  refine V_eqi (y := nI (n + 1)) (nI_1 n) ?_
  refine V_put hC dX5_addLayer_35 inAX5 tyX5 tyX5_ok nmX5 0 0 rfl rfl rfl 0 (by decide) q53 rfl rfl (rfl) (rfl) (Nat.le_of_ble_eq_true rfl) (ps' := [[(a, .inr (6, [.int (nI (n + 1)), .ref bo, .ref pa, .ref so]))], [(bo, .inl (G.2.1 0, 8, .inl (upd f n x)))], [(pa, .inl (G.2.1 0, 8, .inl (upd g n y)))], [(so, .inl (G.2.1 0, 8, .inl h))]]) rfl ?_
  exact V_vret hC hQ hr [0, 1, 2, 3] (u := [[(a, .inr (6, [.int (nI (n + 1)), .ref bo, .ref pa, .ref so]))], [(bo, .inl (G.2.1 0, 8, .inl (upd f n x)))], [(pa, .inl (G.2.1 0, 8, .inl (upd g n y)))], [(so, .inl (G.2.1 0, 8, .inl h))]]) (by decide) rfl (by decide) (by decide) dX5_addLayer_38 (rfl)
set_option maxHeartbeats 4000000 in
set_option maxRecDepth 100000 in
/-- ClinkerWorks$Pile.shareRound -/
theorem c_X5_shareRound (l : Launch) (G : VG) (a bo pa so n : Nat) (f g h : Nat → Int32) (x : Int32) (hn : n ≤ 8) : Mi l G yX5_shareRound cX5_shareRound 4 .int 0 0 0 0 [.ref a, .int x] [[(a, .inr (6, [.int (nI n), .ref bo, .ref pa, .ref so]))], [(bo, .inl (G.2.1 0, 8, .inl f))], [(pa, .inl (G.2.1 0, 8, .inl g))], [(so, .inl (G.2.1 0, 8, .inl h))]] (fun r u => r = (srF g h x n).2 ∧ u = [[(a, .inr (6, [.int (nI n), .ref bo, .ref pa, .ref so]))], [(bo, .inl (G.2.1 0, 8, .inl f))], [(pa, .inl (G.2.1 0, 8, .inl g))], [(so, .inl (G.2.1 0, 8, .inl ((srF g h x n).1)))]]) := by
  refine Mi_of (by decide) (Nat.le_of_ble_eq_true rfl) (fun pP eE sS mM aA bB tT cC AA QQ hC hr hnm hQ => ?_)
  refine V_iconst hC dX5_shareRound_0 (v := 0) (by decide) ?_
  refine V_istore_n hC dX5_shareRound_1 (L' := [(2, .int 0), (0, .ref a), (1, .int x)]) (by decide) rfl ?_
  refine V_iconst hC dX5_shareRound_2 (v := 0) (by decide) ?_
  refine V_istore_n hC dX5_shareRound_3 (L' := [(3, .int 0), (2, .int 0), (0, .ref a), (1, .int x)]) (by decide) rfl ?_
  have loop1 : ∀ (fuel : Nat) (i : Nat) (hi : i ≤ n) (_ : n - i < fuel), V pP l eE { frames := 0, cells := 0, slots := 0, locals := 0 } sS mM aA bB tT cC QQ G AA 4 [[(a, .inr (6, [.int (nI n), .ref bo, .ref pa, .ref so]))], [(bo, .inl (G.2.1 0, 8, .inl f))], [(pa, .inl (G.2.1 0, 8, .inl g))], [(so, .inl (G.2.1 0, 8, .inl ((srF g h x i).1)))]] 0 0 4 [(0, .ref a), (1, .int x), (2, .int ((srF g h x i).2)), (3, .int (nI i))] [] := by
    intro fuel
    induction fuel with
    | zero => intro i hi hm; exact absurd hm (Nat.not_lt_zero _)
    | succ fuel ih =>
      intro i hi hm
      refine V_iload_n hC dX5_shareRound_4 3 rfl ?_
      refine V_aload_n hC dX5_shareRound_5 0 rfl ?_
      refine V_get hC dX5_shareRound_6 inAX5 (mem_at 0 0 rfl rfl) rfl 0 (by decide) q53 rfl (v := .int (nI n)) rfl ?_
      refine V_icmp_ge hC dX5_shareRound_9 (tgt := 51) (by decide) (fun h2 => ?_) (fun h2 => ?_)
      · have he : i = n := by have := nle h2; omega
        rw [he]
        refine V_iload_n hC dX5_shareRound_51 2 rfl ?_
        exact V_iret hC hQ hr [0, 1, 2, 3] (u := [[(a, .inr (6, [.int (nI n), .ref bo, .ref pa, .ref so]))], [(bo, .inl (G.2.1 0, 8, .inl f))], [(pa, .inl (G.2.1 0, 8, .inl g))], [(so, .inl (G.2.1 0, 8, .inl ((srF g h x n).1)))]]) (by decide) rfl (by decide) (by decide) dX5_shareRound_52 (⟨rfl, rfl⟩)
      · have hlt := nnle h2
        refine V_iload_n hC dX5_shareRound_12 2 rfl ?_
        refine V_iload_n hC dX5_shareRound_13 1 rfl ?_
        refine V_icmp_ge hC dX5_shareRound_14 (tgt := 51) (by decide) (fun h3 => ?_) (fun h3 => ?_)
        · have he := srF_stop (i32_nlt h3) hi
          rw [← he]
          refine V_iload_n hC dX5_shareRound_51 2 rfl ?_
          exact V_iret hC hQ hr [0, 1, 2, 3] (u := [[(a, .inr (6, [.int (nI n), .ref bo, .ref pa, .ref so]))], [(bo, .inl (G.2.1 0, 8, .inl f))], [(pa, .inl (G.2.1 0, 8, .inl g))], [(so, .inl (G.2.1 0, 8, .inl ((srF g h x n).1)))]]) (by decide) rfl (by decide) (by decide) dX5_shareRound_52 (⟨rfl, rfl⟩)
        · refine V_aload_n hC dX5_shareRound_17 0 rfl ?_
          refine V_get hC dX5_shareRound_18 inAX5 (mem_at 0 0 rfl rfl) rfl 3 (by decide) q59 rfl (v := .ref so) rfl ?_
          refine V_iload_n hC dX5_shareRound_21 3 rfl ?_
          refine V_iald hC dX5_shareRound_22 (mem_at 3 0 rfl rfl) (vp_in_nI (by omega) (by omega)) (x := i) (nI_clamp (by omega)) ?_
          refine V_aload_n hC dX5_shareRound_23 0 rfl ?_
          refine V_get hC dX5_shareRound_24 inAX5 (mem_at 0 0 rfl rfl) rfl 2 (by decide) q57 rfl (v := .ref pa) rfl ?_
          refine V_iload_n hC dX5_shareRound_27 3 rfl ?_
          refine V_iald hC dX5_shareRound_28 (mem_at 2 0 rfl rfl) (vp_in_nI (by omega) (by omega)) (x := i) (nI_clamp (by omega)) ?_
          refine V_icmp_ge hC dX5_shareRound_29 (tgt := 45) (by decide) (fun h4 => ?_) (fun h4 => ?_)
          · refine V_iinc hC dX5_shareRound_45 (v := nI (i + 1)) (L' := [(3, .int (nI (i + 1))), (0, .ref a), (1, .int x), (2, .int ((srF g h x i).2))]) (j := 3) rfl (nI_1 _) (by decide) rfl ?_
            refine V_goto hC dX5_shareRound_48 (tgt := 4) (by decide) ?_
            refine V_loc (L' := [(0, .ref a), (1, .int x), (2, .int ((srF g h x i).2)), (3, .int (nI (i + 1)))]) [1, 2, 3, 0] rfl ?_
            have e : srF g h x (i + 1) = srF g h x i := by
              show (if (srF g h x i).2 < x then _ else _) = _
              rw [if_pos (i32_lt h3), if_neg (i32_nlt h4)]
            have hh := ih (i + 1) (by omega) (by omega)
            rw [e] at hh
            exact hh
          · refine V_aload_n hC dX5_shareRound_32 0 rfl ?_
            refine V_get hC dX5_shareRound_33 inAX5 (mem_at 0 0 rfl rfl) rfl 3 (by decide) q59 rfl (v := .ref so) rfl ?_
            refine V_iload_n hC dX5_shareRound_36 3 rfl ?_
            refine V_dup2 hC dX5_shareRound_37 rfl rfl ?_
            refine V_iald hC dX5_shareRound_38 (mem_at 3 0 rfl rfl) (vp_in_nI (by omega) (by omega)) (x := i) (nI_clamp (by omega)) ?_
            refine V_iconst hC dX5_shareRound_39 (v := 1) (by decide) ?_
            refine V_iadd hC dX5_shareRound_40 ?_
            refine V_eqi (y := (srF g h x i).1 i + 1) (rfl) ?_
            refine V_iast hC dX5_shareRound_41 3 0 rfl rfl (vp_in_nI (by omega) (by omega)) (z := i) (nI_clamp (by omega)) (ps' := [[(a, .inr (6, [.int (nI n), .ref bo, .ref pa, .ref so]))], [(bo, .inl (G.2.1 0, 8, .inl f))], [(pa, .inl (G.2.1 0, 8, .inl g))], [(so, .inl (G.2.1 0, 8, .inl (upd ((srF g h x i).1) i ((srF g h x i).1 i + 1))))]]) rfl ?_
            refine V_iinc hC dX5_shareRound_42 (v := ((srF g h x i).2) + 1) (L' := [(2, .int (((srF g h x i).2) + 1)), (0, .ref a), (1, .int x), (3, .int (nI i))]) (j := 2) rfl (rfl) (by decide) rfl ?_
            refine V_iinc hC dX5_shareRound_45 (v := nI (i + 1)) (L' := [(3, .int (nI (i + 1))), (2, .int (((srF g h x i).2) + 1)), (0, .ref a), (1, .int x)]) (j := 3) rfl (nI_1 _) (by decide) rfl ?_
            refine V_goto hC dX5_shareRound_48 (tgt := 4) (by decide) ?_
            refine V_loc (L' := [(0, .ref a), (1, .int x), (2, .int (((srF g h x i).2) + 1)), (3, .int (nI (i + 1)))]) [2, 3, 1, 0] rfl ?_
            have e : srF g h x (i + 1) = (upd (srF g h x i).1 i ((srF g h x i).1 i + 1), (srF g h x i).2 + 1) := by
              show (if (srF g h x i).2 < x then _ else _) = _
              rw [if_pos (i32_lt h3), if_pos (i32_lt h4)]
            have hh := ih (i + 1) (by omega) (by omega)
            rw [e] at hh
            exact hh
  refine V_loc (L' := [(0, .ref a), (1, .int x), (2, .int 0), (3, .int 0)]) [2, 3, 1, 0] rfl ?_
  exact loop1 (n + 1) 0 (Nat.zero_le _) (by omega)
